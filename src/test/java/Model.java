import java.io.ByteArrayOutputStream;
import java.security.GeneralSecurityException;
import java.security.MessageDigest;
import java.util.Arrays;
import javax.crypto.Cipher;
import javax.crypto.spec.IvParameterSpec;
import javax.crypto.spec.SecretKeySpec;

/** The document worked out a second time, with the hashes and ciphers of the Java library. */
final class Model {
    static final byte[] FILL = bytes(
        40, 191, 78, 94, 78, 117, 138, 65, 100, 0, 78, 86, 255, 250, 1, 8,
        46, 46, 0, 182, 208, 104, 62, 128, 47, 12, 169, 254, 100, 83, 105, 122);

    final int revision;
    byte[] user = {};
    byte[] owner = {};
    byte[] tried = {};
    byte[] ident = {};
    byte[] tape = {};
    int tapeGiven;
    byte[] collected = {};
    byte[] outBytes = {};
    byte[] secret;
    byte[][] entries;
    int permissions;
    boolean plain;
    int filterKind;
    int collectedFor;
    boolean collectedBack;

    Model(int asked) {
        revision = asked < 2 ? 2 : asked > 5 ? 5 : asked;
        filterKind = revision <= 3 ? 1 : 2;
    }

    int word(int c, boolean owners) {
        byte[] before = owners ? owner : user;
        if (before.length == 127) {
            throw new UnsupportedOperationException();
        }
        byte[] now = join(before, bytes(c));
        if (owners) {
            owner = now;
        } else {
            user = now;
        }
        return now.length;
    }

    int id(byte b) {
        if (ident.length == 32) {
            throw new UnsupportedOperationException();
        }
        ident = join(ident, bytes(b));
        return 0;
    }

    int tape(int v) {
        if (tape.length > 396) {
            throw new UnsupportedOperationException();
        }
        tape = join(tape, bytes(v >> 24, v >> 16, v >> 8, v));
        return tape.length;
    }

    int metadata(boolean now) {
        int was = plain ? 1 : 0;
        plain = now;
        return was;
    }

    int make(int granted) {
        if (revision == 5) {
            makeLate(granted);
        } else {
            makeEarly(granted);
        }
        permissions = granted;
        close();
        return entries.length;
    }

    int entry(int which, int i) {
        if (entries == null || which < 0 || which >= entries.length || i < -1 || i >= entries[which].length) {
            throw new IndexOutOfBoundsException();
        }
        return i < 0 ? entries[which].length : entries[which][i] & 255;
    }

    int alter(int which, int i, byte b) {
        if (i < 0) {
            throw new IndexOutOfBoundsException();
        }
        entry(which, i);
        entries[which][i] = b;
        close();
        return 0;
    }

    int open(int c) {
        if (c < -1 || c > 255) {
            throw new IllegalArgumentException();
        }
        if (c == -1 && entries == null) {
            throw new IllegalStateException();
        }
        if (c >= 0 && tried.length == 127) {
            throw new UnsupportedOperationException();
        }
        if (c >= 0) {
            tried = join(tried, bytes(c));
            return tried.length;
        }
        int opened = revision == 5 ? openLate() : openEarly();
        tried = new byte[0];
        if (opened == 0) {
            close();
        }
        return opened;
    }

    int key(int object, int generation) {
        if (secret == null) {
            throw new IllegalStateException();
        }
        outBytes = objectKey(object, generation);
        return outBytes.length;
    }

    int filter(int kind) {
        boolean fits = kind == 0 || kind == 1 && revision != 5 || kind == 2 && revision > 3;
        if (!fits) {
            throw new IllegalArgumentException();
        }
        int was = filterKind;
        filterKind = kind;
        return was;
    }

    int apply(int object, boolean back, byte b) {
        if (secret == null) {
            throw new IllegalStateException();
        }
        if (collected.length > 0 && (collectedFor != object || collectedBack != back)) {
            throw new IllegalStateException();
        }
        if (collected.length == 400) {
            throw new UnsupportedOperationException();
        }
        collectedFor = object;
        collectedBack = back;
        collected = join(collected, bytes(b));
        return collected.length;
    }

    int end() {
        byte[] all = collected;
        collected = new byte[0];
        if (all.length == 0) {
            return -1;
        }
        if (filterKind == 2) {
            return collectedBack ? endBack(all) : endForth(all);
        }
        outBytes = filterKind == 0 ? all : rc4(objectKey(collectedFor, 0), 0, all);
        return outBytes.length;
    }

    int out(int i) {
        if (i < 0 || i >= outBytes.length) {
            throw new ArrayIndexOutOfBoundsException();
        }
        return outBytes[i];
    }

    int digest(int kind) {
        if (kind < 0 || kind > 1) {
            throw new IllegalArgumentException();
        }
        outBytes = kind == 0 ? md5(collected) : sha256(collected);
        return outBytes.length;
    }

    int weak() {
        return revision == 2 || filterKind == 0 ? 1 : 0;
    }

    int told(int what) {
        if (what < 0 || what > 3) {
            throw new IndexOutOfBoundsException();
        }
        if (what == 3 && revision == 5 && secret != null) {
            byte[] told = aes(Cipher.DECRYPT_MODE, secret, new byte[16], entries[4]);
            return told[0] & 255 | (told[1] & 255) << 8 | (told[2] & 255) << 16 | told[3] << 24;
        }
        return new int[] {collected.length, tapeLeft(), outBytes.length, permissions}[what];
    }

    private void close() {
        secret = null;
        collected = new byte[0];
    }

    int tapeLeft() {
        return tape.length - tapeGiven;
    }

    private byte[] nextOfTape(int count) {
        byte[] next = part(tape, tapeGiven, count);
        tapeGiven += count;
        return next;
    }

    private void makeEarly(int granted) {
        byte[] zero = shutSteps(ownersKey(owner.length > 0 ? owner : user), padded(user));
        byte[] one = check(userKey(padded(user), zero, granted));
        entries = new byte[][] {zero, Arrays.copyOf(one, 32)};
    }

    private int openEarly() {
        byte[] asUser = userKey(padded(tried), entries[0], permissions);
        if (comesOut(asUser)) {
            secret = asUser;
            return 1;
        }
        byte[] user = entries[0];
        byte[] ownersKey = ownersKey(tried);
        for (int i = revision == 2 ? 0 : 19; i >= 0; i--) {
            user = rc4(ownersKey, i, user);
        }
        byte[] asOwner = userKey(user, entries[0], permissions);
        if (comesOut(asOwner)) {
            secret = asOwner;
            return 2;
        }
        return 0;
    }

    private boolean comesOut(byte[] key) {
        byte[] due = check(key);
        return Arrays.equals(due, Arrays.copyOf(entries[1], due.length));
    }

    private byte[] ownersKey(byte[] word) {
        return strengthened(padded(word));
    }

    private byte[] userKey(byte[] padded, byte[] zero, int granted) {
        byte[] all = join(join(padded, zero), lowestFirst(granted, 4));
        all = join(all, ident);
        return strengthened(revision == 4 && plain ? join(all, bytes(255, 255, 255, 255)) : all);
    }

    private byte[] strengthened(byte[] all) {
        int n = revision == 2 ? 5 : 16;
        byte[] key = Arrays.copyOf(md5(all), n);
        for (int k = 0; revision > 2 && k < 50; k++) {
            key = Arrays.copyOf(md5(key), n);
        }
        return key;
    }

    private byte[] check(byte[] key) {
        return shutSteps(key, revision == 2 ? FILL : md5(join(FILL, ident)));
    }

    private byte[] shutSteps(byte[] key, byte[] data) {
        byte[] now = data;
        for (int i = 0; i < (revision == 2 ? 1 : 20); i++) {
            now = rc4(key, i, now);
        }
        return now;
    }

    private void makeLate(int granted) {
        if (tapeLeft() < 68) {
            throw new IllegalStateException();
        }
        byte[] key = nextOfTape(32);
        byte[] userCheck = nextOfTape(8);
        byte[] userSalt = nextOfTape(8);
        byte[] ownerCheck = nextOfTape(8);
        byte[] ownerSalt = nextOfTape(8);
        byte[] rest = nextOfTape(4);
        byte[] one = join(join(sha256(join(user, userCheck)), userCheck), userSalt);
        byte[] three = aes(Cipher.ENCRYPT_MODE, sha256(join(user, userSalt)), new byte[16], key);
        byte[] zero = join(join(sha256(join(join(owner, ownerCheck), one)), ownerCheck), ownerSalt);
        byte[] two = aes(Cipher.ENCRYPT_MODE, sha256(join(join(owner, ownerSalt), one)), new byte[16], key);
        byte[] told = join(lowestFirst(granted, 4), bytes(255, 255, 255, 255, plain ? 'F' : 'T', 'a', 'd', 'b'));
        byte[] four = aes(Cipher.ENCRYPT_MODE, key, new byte[16], join(told, rest));
        entries = new byte[][] {zero, one, two, three, four};
    }

    private int openLate() {
        byte[] one = entries[1];
        byte[] zero = entries[0];
        if (Arrays.equals(Arrays.copyOf(one, 32), sha256(join(tried, part(one, 32, 8))))) {
            secret = aes(Cipher.DECRYPT_MODE, sha256(join(tried, part(one, 40, 8))), new byte[16], entries[3]);
            return 1;
        }
        if (Arrays.equals(Arrays.copyOf(zero, 32), sha256(join(join(tried, part(zero, 32, 8)), one)))) {
            byte[] by = sha256(join(join(tried, part(zero, 40, 8)), one));
            secret = aes(Cipher.DECRYPT_MODE, by, new byte[16], entries[2]);
            return 2;
        }
        return 0;
    }

    private byte[] objectKey(int object, int generation) {
        if (revision == 5) {
            return secret;
        }
        byte[] all = join(join(secret, lowestFirst(object, 3)), lowestFirst(generation, 2));
        if (filterKind == 2) {
            all = join(all, bytes(115, 65, 108, 84));
        }
        return Arrays.copyOf(md5(all), revision == 2 ? 10 : 16);
    }

    private int endForth(byte[] all) {
        if (tapeLeft() < 16) {
            return -2;
        }
        byte[] vector = nextOfTape(16);
        int fill = 16 - all.length % 16;
        byte[] filled = Arrays.copyOf(all, all.length + fill);
        Arrays.fill(filled, all.length, filled.length, (byte) fill);
        outBytes = join(vector, aes(Cipher.ENCRYPT_MODE, objectKey(collectedFor, 0), vector, filled));
        return outBytes.length;
    }

    private int endBack(byte[] all) {
        if (all.length < 16) {
            return -2;
        }
        if (all.length % 16 != 0 || all.length == 16) {
            return -3;
        }
        byte[] vector = Arrays.copyOf(all, 16);
        byte[] text = aes(Cipher.DECRYPT_MODE, objectKey(collectedFor, 0), vector, part(all, 16, all.length - 16));
        int fill = text[text.length - 1];
        if (fill < 1 || fill > 16) {
            return -4;
        }
        for (byte b : part(text, text.length - fill, fill)) {
            if (b != fill) {
                return -4;
            }
        }
        outBytes = Arrays.copyOf(text, text.length - fill);
        return outBytes.length;
    }

    static byte[] bytes(int... values) {
        byte[] all = new byte[values.length];
        for (int i = 0; i < all.length; i++) {
            all[i] = (byte) values[i];
        }
        return all;
    }

    static byte[] join(byte[] one, byte[] two) {
        ByteArrayOutputStream all = new ByteArrayOutputStream();
        all.writeBytes(one);
        all.writeBytes(two);
        return all.toByteArray();
    }

    static byte[] part(byte[] of, int start, int count) {
        return Arrays.copyOfRange(of, start, start + count);
    }

    static byte[] lowestFirst(int v, int count) {
        return Arrays.copyOf(bytes(v, v >> 8, v >> 16, v >> 24), count);
    }

    static byte[] padded(byte[] word) {
        return Arrays.copyOf(join(word, FILL), 32);
    }

    static byte[] md5(byte[] of) {
        return sum("MD5", of);
    }

    static byte[] sha256(byte[] of) {
        return sum("SHA-256", of);
    }

    private static byte[] sum(String name, byte[] of) {
        try {
            return MessageDigest.getInstance(name).digest(of);
        } catch (GeneralSecurityException e) {
            throw new AssertionError(e);
        }
    }

    static byte[] rc4(byte[] key, int with, byte[] data) {
        byte[] turned = key.clone();
        for (int i = 0; i < turned.length; i++) {
            turned[i] ^= (byte) with;
        }
        try {
            Cipher cipher = Cipher.getInstance("RC4");
            cipher.init(Cipher.ENCRYPT_MODE, new SecretKeySpec(turned, "RC4"));
            return cipher.doFinal(data);
        } catch (GeneralSecurityException e) {
            throw new AssertionError(e);
        }
    }

    static byte[] aes(int mode, byte[] key, byte[] vector, byte[] data) {
        try {
            Cipher cipher = Cipher.getInstance("AES/CBC/NoPadding");
            cipher.init(mode, new SecretKeySpec(key, "AES"), new IvParameterSpec(vector));
            return cipher.doFinal(data);
        } catch (GeneralSecurityException e) {
            throw new AssertionError(e);
        }
    }
}
