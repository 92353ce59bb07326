import java.util.Arrays;
import javax.crypto.Cipher;

/** Each sentence of the document's head and of its Terms that names a boundary case. */
public final class BoundaryTermsTest extends Sentences {
    public static void main(String[] args) {
        ownersWordWithoutBytes();
        ownersWordWithoutBytesOpensNothing();
        ownersWordWithoutBytesInRevision5();
        usersWordWithoutBytes();
        ownersKeyOfTheUsersWord();
        lastCall();
        longestWords();
        longestTried();
        longestId();
        nextOnesOfTheTape();
        paddedWords();
        wholeFill();
        publishedHashes();
        hashesOfAllLengths();
        publishedBlocks();
        lengthOfTheKey();
        stepsOfEntry0();
        permissionsOfTheKey();
        stepsOfEntry1();
        plainMetadata();
        zerosBehindTheCheck();
        firstSixteenBytes();
        ofItAlone();
        partsOfTheTape();
        entriesOfAllWords();
        lastFourBytesOfTheTape();
        permissionsOfEntry4();
        plainOfEntry4();
        opensByTheFirst8();
        opensByTheFirst32();
        opensAsOwnersBehindUsers();
        numberOfThreeBytes();
        generationOfTwoBytes();
        saltOfFilter2();
        lengthOfAnObjectsKey();
        keyOfRevision5();
        asItIs();
        bytesByRc4();
        filledUp();
        collectedBytesAreGone();
        collectedBytesStay();
        exit();
    }

    private static Pair withWords(int revision, byte[] user, byte[] owner) {
        Pair x = new Pair(revision);
        x.tapes(20);
        x.words(false, user);
        x.words(true, owner);
        x.make(-44);
        return x;
    }

    private static boolean sameEntry(Pair x, Pair y, int which) {
        boolean same = x.entry(which, -1).equals(y.entry(which, -1));
        for (int i = 0; i < x.model().entries[which].length; i++) {
            same &= x.entry(which, i).equals(y.entry(which, i));
        }
        return same;
    }

    private static void ownersWordWithoutBytes() {
        says("of revisions 2 to 4 an owner's word without bytes stands for the user's");
        for (int revision : EARLY) {
            Pair x = withWords(revision, text("u"), text(""));
            Pair y = withWords(revision, text("u"), text("u"));
            due("entry 0 as with the user's word for the owner's", sameEntry(x, y, 0), true);
            due("entry 1 as with the user's word for the owner's", sameEntry(x, y, 1), true);
            ended(x);
            ended(y);
        }
    }

    private static void ownersWordWithoutBytesOpensNothing() {
        says("and opens nothing as an owner's");
        for (int revision : EARLY) {
            Pair x = withWords(revision, text("u"), text(""));
            due("a word without bytes", x.open(-1), 0);
            due("nothing is open", x.key(1, 0), STATE);
            due("the word that it stands for, as the user's", x.tryWord(text("u")), 1);
            due("the word that is padded like one without bytes", x.tryWord(Model.FILL), 0);
            ended(x);
        }
    }

    private static void ownersWordWithoutBytesInRevision5() {
        says("of revisions 2 to 4 an owner's word without bytes");
        Pair x = withWords(5, text("u"), text(""));
        Pair y = withWords(5, text("u"), text("u"));
        due("entry 0 of 5 is not as with the user's word", sameEntry(x, y, 0), false);
        due("of 5 it opens as an owner's", x.open(-1), 2);
        due("the user's", x.tryWord(text("u")), 1);
        ended(x);
        ended(y);
    }

    private static void usersWordWithoutBytes() {
        says("entries made of a user's and an owner's word, opened by either");
        for (int revision : ALL) {
            Pair x = withWords(revision, text(""), text("o"));
            due("the user's, without bytes", x.open(-1), 1);
            due("the owner's", x.tryWord(text("o")), 2);
            due("another one", x.tryWord(text("p")), 0);
            ended(x);
            x = withWords(revision, text(""), text(""));
            due("both without bytes", x.open(-1), 1);
            due("another one", x.tryWord(text("p")), 0);
            ended(x);
        }
    }

    private static void ownersKeyOfTheUsersWord() {
        says("THE OWNER'S KEY: SMALL of the owner's word, padded (of the user's, if that has no bytes)");
        for (int length : new int[] {0, 1, 32, 127}) {
            byte[] word = counted(9, length);
            Pair x = withWords(2, word, text(""));
            byte[] key = Arrays.copyOf(Model.md5(Model.padded(word)), 5);
            dueEntry(x, 0, 0, Model.rc4(key, 0, Model.padded(word)));
            ended(x);
        }
    }

    private static void lastCall() {
        says("An object is used for at most 512 calls after it has been made");
        for (int revision : ALL) {
            Pair x = made(revision);
            while (x.count() < 511 - 5) {
                x.told(1);
            }
            due("the 511th call", x.tryWord(text("user")), 1);
            due("the 512th call", x.key(1, 0), revision == 2 ? 10 : revision == 5 ? 32 : 16);
            wrong += x.wrong;
        }
    }

    private static void longestWords() {
        says("WORDS, the user's and the owner's, and the one that is tried, are rows of bytes, 127 at most.");
        byte[] user = counted(1, 127);
        byte[] owner = counted(-127, 127);
        Pair x = withWords(5, user, text("o"));
        due("a user's word of 127 bytes", x.tryWord(user), 1);
        due("without the last one", x.tryWord(Arrays.copyOf(user, 126)), 0);
        ended(x);
        x = withWords(5, text("u"), owner);
        due("an owner's word of 127 bytes", x.tryWord(owner), 2);
        due("without the last one", x.tryWord(Arrays.copyOf(owner, 126)), 0);
        ended(x);
        for (int revision : EARLY) {
            x = withWords(revision, user, owner);
            due("a user's word of 127 bytes", x.tryWord(Arrays.copyOf(user, 32)), 1);
            due("an owner's word of 127 bytes", x.tryWord(Arrays.copyOf(owner, 32)), 2);
            ended(x);
        }
    }

    private static void longestTried() {
        says("and the one that is tried, are rows of bytes, 127 at most.");
        for (int revision : ALL) {
            Pair x = withWords(revision, text("u"), text("o"));
            for (int n = 1; n <= 127; n++) {
                due("how many", x.open(255), n);
            }
            due("one more", x.open(255), UNSUPPORTED);
            due("tried", x.open(-1), 0);
            ended(x);
        }
    }

    private static void longestId() {
        says("THE ID has 32 bytes at most.");
        for (int revision : EARLY) {
            Pair x = new Pair(revision);
            x.ids(31);
            x.make(1);
            due("31 bytes", x.open(-1), 1);
            x.id(1);
            due("one more counts", x.open(-1), 0);
            x.make(1);
            x.seeAll();
            due("32 bytes", x.open(-1), 1);
            due("one more", x.id(1), UNSUPPORTED);
            due("32 bytes still", x.open(-1), 1);
            ended(x);
        }
    }

    private static void nextOnesOfTheTape() {
        says("THE TAPE gives bytes that would be made by chance: the next ones, the first one first.");
        Pair x = new Pair(5);
        x.tapes(17 + 4 + 17 + 4);
        byte[] tape = x.model().tape;
        x.make(1);
        x.open(-1);
        x.key(0, 0);
        dueOut(x, 0, Model.part(tape, 0, 32));
        x.apply(1, false, 1);
        due("a vector and a block", x.end(), 32);
        dueOut(x, 0, Model.part(tape, 68, 16));
        x.make(1);
        x.open(-1);
        x.key(0, 0);
        dueOut(x, 0, Model.part(tape, 84, 32));
        x.apply(1, false, 1);
        due("a vector and a block", x.end(), 32);
        dueOut(x, 0, Model.part(tape, 152, 16));
        due("all are given", x.told(1), 0);
        ended(x);
    }

    private static void paddedWords() {
        says("PADDED is a word of 32 bytes: its first ones, filled up from the beginning of THE FILL");
        for (int revision : EARLY) {
            for (int length : new int[] {0, 1, 16, 31, 32, 33, 127}) {
                dueOfPadded(revision, length, false);
                if (length > 0) {
                    dueOfPadded(revision, length, true);
                }
            }
        }
    }

    private static void dueOfPadded(int revision, int length, boolean owner) {
        byte[] word = counted(3, length);
        byte[] padded = Arrays.copyOf(word, 32);
        if (length < 32) {
            System.arraycopy(Model.FILL, 0, padded, length, 32 - length);
        }
        Pair x = withWords(revision, owner ? text("u") : word, owner ? word : text("o"));
        int opens = owner ? 2 : 1;
        due(length + " bytes", x.tryWord(word), opens);
        due("its padded word", x.tryWord(padded), opens);
        due("31 bytes of it", x.tryWord(Arrays.copyOf(padded, 31)), padded[31] == 40 ? opens : 0);
        due("a 33rd byte", x.tryWord(Arrays.copyOf(padded, 33)), opens);
        padded[31]++;
        due("another last byte", x.tryWord(padded), 0);
        ended(x);
    }

    private static void wholeFill() {
        says("40 191 78 94 78 117 138 65 100 0 78 86 255 250 1 8 46 46 0 182 208 104 62 128 47 12 169 254 "
            + "100 83 105 122.");
        byte[] fill = Model.bytes(40, 191, 78, 94, 78, 117, 138, 65, 100, 0, 78, 86, 255, 250, 1, 8,
            46, 46, 0, 182, 208, 104, 62, 128, 47, 12, 169, 254, 100, 83, 105, 122);
        for (int revision : EARLY) {
            Pair x = withWords(revision, text(""), text("o"));
            due("the fill for a word without bytes", x.tryWord(fill), 1);
            due("31 bytes of it, filled up by the first one", x.tryWord(Arrays.copyOf(fill, 31)), 0);
            ended(x);
        }
        for (int i = 0; i < 32; i++) {
            byte[] other = fill.clone();
            other[i]++;
            Pair x = withWords(2, text(""), text("o"));
            due("another byte " + i, x.tryWord(other), 0);
            ended(x);
        }
    }

    private static void publishedHashes() {
        says("SMALL is the hash of 16 bytes (MD5), GREAT that of 32 (SHA-256), as published.");
        dueOfHashes("", "d41d8cd98f00b204e9800998ecf8427e",
            "e3b0c44298fc1c149afbf4c8996fb92427ae41e4649b934ca495991b7852b855");
        dueOfHashes("abc", "900150983cd24fb0d6963f7d28e17f72",
            "ba7816bf8f01cfea414140de5dae2223b00361a396177a9cb410ff61f20015ad");
        dueOfHashes("abcdbcdecdefdefgefghfghighijhijkijkljklmklmnlmnomnopnopq", "8215ef0796a20bcaaae116d3876c664a",
            "248d6a61d20638b8e5c026930c3e6039a33ce45964ff2167f6ecedd419db06c1");
        dueOfHashes("12345678901234567890123456789012345678901234567890123456789012345678901234567890",
            "57edf4a22be3c955ac49da2e2107b67a", "f371bc4a311f2b009eef952dd83ca80e2b60026c8e935592d0f9c308453c813e");
    }

    private static void dueOfHashes(String of, String small, String great) {
        Pair x = quick(4, 0);
        x.applyAll(1, false, text(of));
        due("SMALL", x.digest(0), 16);
        dueOut(x, 0, hex(small));
        due("GREAT", x.digest(1), 32);
        dueOut(x, 0, hex(great));
        ended(x);
    }

    private static void hashesOfAllLengths() {
        says("SMALL is the hash of 16 bytes (MD5), GREAT that of 32 (SHA-256), as published.");
        for (int first = 0; first <= 400; first += 20) {
            Pair x = quick(2, 0);
            x.applyAll(1, false, counted(0, first));
            for (int length = first; length < first + 20 && length <= 400; length++) {
                due("SMALL of " + length + " bytes", x.digest(0), 16);
                x.seeOut();
                due("GREAT of " + length + " bytes", x.digest(1), 32);
                x.seeOut();
                x.apply(1, false, length);
            }
            ended(x);
        }
    }

    /** SP 800-38A, F.2.5: the key and the vector are the tape's. */
    private static void publishedBlocks() {
        says("CHAINED: each block is, before it is enciphered, xor-ed with the one before as enciphered, the "
            + "first one with a VECTOR.");
        byte[] plain = hex("6bc1bee22e409f96e93d7e117393172aae2d8a571e03ac9c9eb76fac45af8e51"
            + "30c81c46a35ce411e5fbc1191a0a52eff69f2445df4f9b17ad2b417be66c3710");
        byte[] shut = hex("f58c4c04d6e5f1ba779eabfb5f7bfbd69cfc4e967edb808d679f777bc6702c7d"
            + "39f23369a9d9bacfa530e26304231461b2eb05e2c39be9fcda6c19078c6a9d1b");
        byte[] vector = hex("000102030405060708090a0b0c0d0e0f");
        Pair x = new Pair(5);
        tapeOf(x, hex("603deb1015ca71be2b73aef0857d77811f352c073b6108d72d9810a30914dff4"));
        x.tapes(9);
        tapeOf(x, vector);
        x.make(1);
        x.open(-1);
        x.applyAll(1, false, plain);
        due("the vector and five blocks", x.end(), 96);
        dueOut(x, 0, vector);
        dueOut(x, 16, shut);
        byte[] all = x.model().outBytes.clone();
        x.applyAll(1, true, all);
        due("four blocks", x.end(), 64);
        dueOut(x, 0, plain);
        ended(x);
    }

    private static void tapeOf(Pair x, byte[] bytes) {
        for (int i = 0; i + 4 <= bytes.length; i += 4) {
            x.tape(bytes[i] << 24 | (bytes[i + 1] & 255) << 16 | (bytes[i + 2] & 255) << 8 | bytes[i + 3] & 255);
        }
    }

    private static void lengthOfTheKey() {
        says("n is 5 for 2, else 16.");
        int[] dues = {10, 16, 16};
        for (int revision : EARLY) {
            Pair x = quick(revision, 0);
            due("as many bytes and 5 more, 16 at most", x.key(1, 0), dues[revision - 2]);
            due("fewer than 16", x.weak(), revision == 2 ? 1 : 0);
            ended(x);
        }
    }

    private static void stepsOfEntry0() {
        says("ENTRY 0 (32 bytes): the user's word, padded, by RC4 with 0, from 3 on then with 1, 2, .. 19.");
        for (int revision : EARLY) {
            Pair x = withWords(revision, text("u"), text("o"));
            byte[] key = Model.md5(Model.padded(text("o")));
            for (int k = 0; k < 50 && revision > 2; k++) {
                key = Model.md5(key);
            }
            dueEntry(x, 0, 0, byRc4(revision, Arrays.copyOf(key, revision == 2 ? 5 : 16), Model.padded(text("u"))));
            ended(x);
        }
    }

    private static byte[] byRc4(int revision, byte[] key, byte[] data) {
        byte[] now = Model.rc4(key, 0, data);
        for (int i = 1; i <= 19 && revision > 2; i++) {
            now = Model.rc4(key, i, now);
        }
        return now;
    }

    private static void permissionsOfTheKey() {
        says("the permissions (4 bytes, the lowest first); the id;");
        for (int revision : EARLY) {
            for (int bit : new int[] {1, 1 << 7, 1 << 8, 1 << 23, 1 << 24, Integer.MIN_VALUE}) {
                Pair x = withWords(revision, text("u"), text("o"));
                Pair y = withWords(revision, text("u"), text("o"));
                y.make(-44 ^ bit);
                due("entry 0 does not go by them", sameEntry(x, y, 0), true);
                due("entry 1 goes by bit " + bit, sameEntry(x, y, 1), false);
                due("opened by them as made", y.tryWord(text("u")), 1);
                ended(x);
                ended(y);
            }
        }
    }

    private static void stepsOfEntry1() {
        says("From 3 on fifty times more SMALL of the first n bytes. Its first n bytes. ENTRY 1 (32): of 2 "
            + "the fill, by RC4 with 0; of others SMALL of the fill and the id");
        for (int revision : EARLY) {
            for (int ids : new int[] {0, 1, 32}) {
                Pair x = new Pair(revision);
                x.words(false, text("u"));
                x.ids(ids);
                x.make(0x01020380);
                byte[] id = x.model().ident;
                byte[] all = Model.join(Model.padded(text("u")), x.model().entries[0]);
                byte[] key = Model.md5(Model.join(Model.join(all, Model.bytes(0x80, 3, 2, 1)), id));
                for (int k = 0; k < 50 && revision > 2; k++) {
                    key = Model.md5(key);
                }
                byte[] check = revision == 2 ? Model.FILL : Model.md5(Model.join(Model.FILL, id));
                byte[] want = byRc4(revision, Arrays.copyOf(key, revision == 2 ? 5 : 16), check);
                dueEntry(x, 1, 0, Arrays.copyOf(want, 32));
                ended(x);
            }
        }
    }

    private static void plainMetadata() {
        says("of 4, if metadata are plain, four bytes 255.");
        for (int revision : EARLY) {
            Pair x = withWords(revision, text("u"), text("o"));
            Pair y = new Pair(revision);
            y.words(false, text("u"));
            y.words(true, text("o"));
            y.metadata(true);
            y.make(-44);
            due("entry 0 is the same", sameEntry(x, y, 0), true);
            due("entry 1 is another one for 4", sameEntry(x, y, 1), revision < 4);
            ended(x);
            ended(y);
        }
    }

    private static void zerosBehindTheCheck() {
        says("of others SMALL of the fill and the id, by RC4 with 0, 1, .. 19, and 16 bytes 0.");
        for (int revision : EARLY) {
            Pair x = withWords(revision, text("u"), text("o"));
            int zeros = 0;
            for (int i = 16; i < 32; i++) {
                zeros += x.entry(1, i).equals("0") ? 1 : 0;
            }
            due("all of the last 16 are 0", zeros == 16, revision > 2);
            due("the 16th is not", x.entry(1, 15).equals("0"), false);
            x.alter(1, 16, 9);
            x.make(-44);
            due("made again", x.entry(1, 16).equals("0"), revision > 2);
            ended(x);
        }
    }

    private static void firstSixteenBytes() {
        says("where entry 1 comes out (from 3 on: its first 16 bytes): 1.");
        for (int revision : EARLY) {
            for (int i : new int[] {0, 15, 16, 31}) {
                Pair x = withWords(revision, text("u"), text("o"));
                x.alter(1, i, ~Integer.parseInt(x.entry(1, i)));
                boolean looksAt = revision == 2 || i < 16;
                due("byte " + i + " is another one: the user's", x.tryWord(text("u")), looksAt ? 0 : 1);
                due("byte " + i + " is another one: the owner's", x.tryWord(text("o")), looksAt ? 0 : 2);
                ended(x);
            }
        }
    }

    private static void ofItAlone() {
        says("Else by its owner's key (of it alone): entry 0, by RC4 with 19, .. 1, 0 (of 2 with 0), is a "
            + "padded user's word; where that opens: 2. Else 0.");
        for (int revision : EARLY) {
            Pair x = withWords(revision, Model.bytes(0), Model.FILL);
            due("a word without bytes, by the key of the fill", x.open(-1), 2);
            due("something is open", x.told(0), 0);
            due("a key", x.key(1, 0), revision == 2 ? 10 : 16);
            ended(x);
            x = withWords(revision, Model.bytes(0), Arrays.copyOf(Model.FILL, 31));
            due("a word without bytes, the owner's with 31 of the fill", x.open(-1), 0);
            due("nothing is open", x.key(1, 0), STATE);
            ended(x);
        }
    }

    private static void partsOfTheTape() {
        says("THE KEY: 32 bytes of the tape; then 8 and 8 for the user, 8 and 8 for the owner, 4 more.");
        Pair x = new Pair(5);
        tapeOf(x, counted(1, 84));
        x.make(-2);
        dueEntry(x, 1, 32, counted(33, 16));
        dueEntry(x, 0, 32, counted(49, 16));
        due("what is left", x.told(1), 16);
        x.open(-1);
        x.key(0, 0);
        dueOut(x, 0, counted(1, 32));
        x.apply(0, false, 0);
        x.end();
        dueOut(x, 0, counted(69, 16));
        ended(x);
    }

    private static void dueEntry(Pair x, int which, int start, byte[] want) {
        for (int i = 0; i < want.length; i++) {
            due("byte " + (start + i) + " of entry " + which, x.entry(which, start + i), want[i] & 255);
        }
    }

    /** Both words without bytes, and both with as many as they may have. */
    private static void entriesOfAllWords() {
        says("ENTRY 1 (48): GREAT of the user's word and the first 8; these; the other 8. ENTRY 3 (32): the "
            + "key, by AES with GREAT of the user's word and the other 8, chained, a vector of 0. ENTRY 0 "
            + "(48): GREAT of the owner's word, its first 8, and entry 1; these; the other 8. ENTRY 2 (32): "
            + "the key likewise by GREAT of the owner's word, its other 8, and entry 1.");
        for (int length : new int[] {0, 1, 127}) {
            byte[] user = counted(10, length);
            byte[] owner = counted(90, length);
            Pair x = withWords(5, user, owner);
            byte[] tape = x.model().tape;
            byte[] key = Model.part(tape, 0, 32);
            byte[] one = Model.join(Model.sha256(Model.join(user, Model.part(tape, 32, 8))), Model.part(tape, 32, 16));
            byte[] ownerFirst = Model.join(Model.join(owner, Model.part(tape, 48, 8)), one);
            byte[] ownerOther = Model.join(Model.join(owner, Model.part(tape, 56, 8)), one);
            dueEntry(x, 1, 0, one);
            dueEntry(x, 0, 0, Model.join(Model.sha256(ownerFirst), Model.part(tape, 48, 16)));
            dueEntry(x, 3, 0, shutKey(Model.sha256(Model.join(user, Model.part(tape, 40, 8))), key));
            dueEntry(x, 2, 0, shutKey(Model.sha256(ownerOther), key));
            ended(x);
        }
    }

    private static byte[] shutKey(byte[] by, byte[] key) {
        return Model.aes(Cipher.ENCRYPT_MODE, by, new byte[16], key);
    }

    private static void lastFourBytesOfTheTape() {
        says("THE KEY: 32 bytes of the tape; then 8 and 8 for the user, 8 and 8 for the owner, 4 more.");
        for (int i = 63; i <= 68; i++) {
            byte[] tape = counted(1, 72);
            Pair x = new Pair(5);
            tapeOf(x, tape);
            x.make(1);
            tape[i]++;
            Pair y = new Pair(5);
            tapeOf(y, tape);
            y.make(1);
            due("entry 4 goes by byte " + i, !sameEntry(x, y, 4), i >= 64 && i < 68);
            due("entry 0 goes by byte " + i, !sameEntry(x, y, 0), i == 63);
            ended(x);
            ended(y);
        }
    }

    private static void permissionsOfEntry4() {
        says("ENTRY 4 (16): the permissions (4 bytes, the lowest first), four bytes 255");
        int[] permissions = {0, 1, -1, Integer.MIN_VALUE, Integer.MAX_VALUE, 0x01020384, 0x80ff7f00};
        for (int asked : permissions) {
            Pair x = new Pair(5);
            x.tapes(17);
            x.make(asked);
            byte[] plain = plainOfEntry4(x);
            for (int i = 0; i < 4; i++) {
                due("byte " + i + " of " + asked, plain[i] & 255, asked >>> 8 * i & 255);
                due("byte " + (4 + i), plain[4 + i] & 255, 255);
            }
            x.open(-1);
            due("as entry 4 tells them", x.told(3), asked);
            ended(x);
        }
    }

    private static void plainOfEntry4() {
        says("T (F if metadata are plain), a, d, b, the 4: one block by AES with the key.");
        for (boolean plainMetadata : new boolean[] {false, true}) {
            Pair x = new Pair(5);
            tapeOf(x, counted(1, 68));
            x.metadata(plainMetadata);
            x.make(1);
            byte[] want = Model.join(text(plainMetadata ? "Fadb" : "Tadb"), counted(65, 4));
            byte[] plain = plainOfEntry4(x);
            for (int i = 0; i < 8; i++) {
                due("byte " + (8 + i), plain[8 + i], want[i]);
            }
            ended(x);
        }
    }

    private static byte[] plainOfEntry4(Pair x) {
        byte[] shut = new byte[16];
        for (int i = 0; i < 16; i++) {
            shut[i] = (byte) Integer.parseInt(x.entry(4, i));
        }
        return Model.aes(Cipher.DECRYPT_MODE, Model.part(x.model().tape, 0, 32), new byte[16], shut);
    }

    private static void opensByTheFirst8() {
        says("GREAT of the word and entry 1's first 8 (behind 32 bytes)");
        for (int i : new int[] {32, 39, 40, 47}) {
            Pair x = altered5(1, i);
            due("byte " + i + " of entry 1: the user's", x.tryWord(text("u")), i < 40 ? 0 : 1);
            due("byte " + i + " of entry 1: the owner's", x.tryWord(text("o")), 0);
            ended(x);
            x = altered5(0, i);
            due("byte " + i + " of entry 0: the user's", x.tryWord(text("u")), 1);
            due("byte " + i + " of entry 0: the owner's", x.tryWord(text("o")), i < 40 ? 0 : 2);
            due("by another key than entry 2's", keyIsTheTapes(x), false);
            ended(x);
        }
    }

    private static void opensByTheFirst32() {
        says("is its first 32; the key is entry 3 back; else 2 where that of the word, entry 0's and entry 1 "
            + "is; by entry 2; else 0.");
        for (int i : new int[] {0, 15, 16, 31}) {
            Pair x = altered5(1, i);
            due("byte " + i + " of entry 1: the user's", x.tryWord(text("u")), 0);
            due("nothing is open", x.key(0, 0), STATE);
            ended(x);
            x = altered5(0, i);
            due("byte " + i + " of entry 0: the owner's", x.tryWord(text("o")), 0);
            due("nothing is open", x.key(0, 0), STATE);
            due("byte " + i + " of entry 0: the user's", x.tryWord(text("u")), 1);
            due("the key", keyIsTheTapes(x), true);
            ended(x);
            x = altered5(3, i);
            due("the user's", x.tryWord(text("u")), 1);
            due("the key by another entry 3", keyIsTheTapes(x), false);
            due("the owner's", x.tryWord(text("o")), 2);
            due("the key by entry 2", keyIsTheTapes(x), true);
            ended(x);
            x = altered5(2, i);
            due("the owner's", x.tryWord(text("o")), 2);
            due("the key by another entry 2", keyIsTheTapes(x), false);
            due("the user's", x.tryWord(text("u")), 1);
            due("the key by entry 3", keyIsTheTapes(x), true);
            ended(x);
        }
    }

    private static Pair altered5(int which, int i) {
        Pair x = withWords(5, text("u"), text("o"));
        x.alter(which, i, ~Integer.parseInt(x.entry(which, i)));
        return x;
    }

    /** Of a revision 5 that is open: whether its key is the first 32 bytes of the tape; else false. */
    private static boolean keyIsTheTapes(Pair x) {
        boolean same = x.key(0, 0).equals("32");
        for (int i = 0; same && i < 32; i++) {
            same = x.out(i).equals(Byte.toString(x.model().tape[i]));
        }
        return same;
    }

    private static void opensAsOwnersBehindUsers() {
        says("where that opens: 2. Else 0.");
        for (int revision : ALL) {
            Pair x = withWords(revision, text("same"), text("same"));
            due("the user's comes first", x.tryWord(text("same")), 1);
            due("neither", x.tryWord(text("Same")), 0);
            due("neither, without bytes", x.open(-1), 0);
            ended(x);
        }
    }

    private static void numberOfThreeBytes() {
        says("the object's number (3 bytes, the lowest first)");
        for (int revision : EARLY) {
            Pair x = quick(revision, 0);
            String first = keyOf(x, 0x123456, 0);
            due("a fourth byte is not looked at", keyOf(x, 0x7f123456, 0), first);
            due("a fourth byte is not looked at", keyOf(x, 0x80123456, 0), first);
            due("the third one is", keyOf(x, 0x923456, 0).equals(first), false);
            due("the second one is", keyOf(x, 0x12b456, 0).equals(first), false);
            due("the first one is", keyOf(x, 0x1234d6, 0).equals(first), false);
            due("the lowest first", keyOf(x, 0x563412, 0).equals(first), false);
            due("-1 as 16777215", keyOf(x, -1, 0), keyOf(x, 0xffffff, 0));
            ended(x);
        }
    }

    private static void generationOfTwoBytes() {
        says("the generation's (2, likewise)");
        for (int revision : EARLY) {
            Pair x = quick(revision, 0);
            String first = keyOf(x, 1, 0x1234);
            due("a third byte is not looked at", keyOf(x, 1, 0x11234), first);
            due("a fourth byte is not looked at", keyOf(x, 1, 0x80001234), first);
            due("the second one is", keyOf(x, 1, 0x9234).equals(first), false);
            due("the first one is", keyOf(x, 1, 0x1235).equals(first), false);
            due("the lowest first", keyOf(x, 1, 0x3412).equals(first), false);
            due("-1 as 65535", keyOf(x, 1, -1), keyOf(x, 1, 0xffff));
            ended(x);
        }
    }

    private static void saltOfFilter2() {
        says("by FILTER 2 also 115 65 108 84");
        Pair x = quick(4, 0);
        String salted = keyOf(x, 1, 0);
        x.filter(1);
        String plain = keyOf(x, 1, 0);
        x.filter(0);
        due("filter 0 as filter 1", keyOf(x, 1, 0), plain);
        due("filter 2 is another one", salted.equals(plain), false);
        x.filter(2);
        due("filter 2 again", keyOf(x, 1, 0), salted);
        ended(x);
    }

    private static void lengthOfAnObjectsKey() {
        says("of that as many bytes as the key has and 5 more, 16 at most.");
        int[] dues = {10, 16, 16};
        for (int revision : EARLY) {
            Pair x = quick(revision, 0);
            int count = dues[revision - 2];
            due("how many", x.key(1, 0), count);
            due("the out", x.told(2), count);
            x.out(count - 1);
            due("behind the last", x.out(count), ARRAY_INDEX);
            ended(x);
        }
    }

    private static void keyOfRevision5() {
        says("Of 5 the key.");
        Pair x = quick(5, 0);
        due("of 0, 0", keyIsTheTapes(x), true);
        String first = keyOf(x, 0, 0);
        due("of another number and generation", keyOf(x, -1, -1), first);
        x.filter(0);
        due("by filter 0", keyOf(x, 1, 1), first);
        ended(x);
    }

    private static void asItIs() {
        says("FILTERS: 0 as it is");
        for (int revision : ALL) {
            for (boolean back : new boolean[] {false, true}) {
                Pair x = quick(revision, 0);
                x.filter(0);
                byte[] bytes = Model.bytes(-128, -1, 0, 1, 127);
                x.applyAll(1, back, bytes);
                due("as many", x.end(), 5);
                dueOut(x, 0, bytes);
                x.apply(1, back, 16);
                due("one byte", x.end(), 1);
                dueOut(x, 0, Model.bytes(16));
                ended(x);
            }
        }
    }

    private static void bytesByRc4() {
        says("1 RC4 by the object's key");
        for (int revision : EARLY) {
            Pair x = quick(revision, 0);
            x.filter(1);
            int count = Integer.parseInt(x.key(0x01020304, 0));
            byte[] key = Arrays.copyOf(x.model().outBytes, count);
            for (int length : new int[] {1, 17}) {
                byte[] want = Model.rc4(key, 0, counted(5, length));
                x.applyAll(0x01020304, false, counted(5, length));
                due("as many", x.end(), length);
                dueOut(x, 0, want);
                x.applyAll(0x01020304, true, want);
                due("and back", x.end(), length);
                dueOut(x, 0, counted(5, length));
            }
            ended(x);
        }
    }

    private static void filledUp() {
        says("the last one filled up by so many bytes of their number (1 .. 16).");
        for (int revision : LATE) {
            for (int length = 1; length <= 33; length++) {
                Pair x = quick(revision, 8);
                x.key(length, 0);
                byte[] key = x.model().outBytes.clone();
                x.applyAll(length, false, counted(200, length));
                int blocks = length / 16 + 1;
                due("the vector and the blocks of " + length, x.end(), 16 + 16 * blocks);
                byte[] all = x.model().outBytes;
                byte[] vector = Arrays.copyOf(all, 16);
                byte[] plain = Model.aes(Cipher.DECRYPT_MODE, key, vector, Model.part(all, 16, 16 * blocks));
                for (int i = length; i < 16 * blocks; i++) {
                    due("fill behind " + length, plain[i], 16 * blocks - length);
                }
                ended(x);
            }
        }
    }

    private static void collectedBytesAreGone() {
        says("Where nothing is open any more, bytes that are collected for an object are gone.");
        for (int revision : ALL) {
            for (int way = 0; way < 4; way++) {
                Pair x = made(revision);
                x.tryWord(text("user"));
                x.applyAll(3, true, text("abc"));
                if (way == 0) {
                    x.make(-1340);
                } else if (way == 1) {
                    x.alter(0, 0, Integer.parseInt(x.entry(0, 0)));
                } else {
                    due("not opened", x.tryWord(text(way == 2 ? "no" : "")), 0);
                }
                due("none are collected", x.told(0), 0);
                due("none to end", x.end(), -1);
                due("nothing is open", x.apply(3, true, 1), STATE);
                due("opened again", x.tryWord(text("owner")), 2);
                due("none are collected", x.told(0), 0);
                due("another object, the other way", x.apply(4, false, 1), 1);
                ended(x);
            }
        }
    }

    private static void collectedBytesStay() {
        says("Where nothing is open any more");
        for (int revision : ALL) {
            Pair x = opened(revision);
            x.applyAll(3, true, text("abc"));
            due("opened once more", x.tryWord(text("owner")), 2);
            x.words(false, text("w"));
            x.words(true, text("w"));
            x.id(1);
            x.metadata(true);
            x.filter(0);
            x.key(1, 1);
            x.digest(1);
            x.open('x');
            due("they stay while something is open", x.told(0), 3);
            due("as they were", x.end(), 3);
            dueOut(x, 0, text("abc"));
            ended(x);
        }
    }
}
