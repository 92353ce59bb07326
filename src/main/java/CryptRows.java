/**
 * Rows of bytes that are shut by words: entries made of a user's and an owner's word, opened by
 * either (of revisions 2 to 4 an owner's word without bytes stands for the user's, and opens
 * nothing as an owner's), keys for each object, a cipher of bytes and one of blocks, in four
 * revisions; hashes worked out here.
 */
public final class CryptRows {
    private static final int WORD_LIMIT = 127;
    private static final int ID_LIMIT = 32;
    private static final int TAPE_LIMIT = 400;
    private static final int COLLECTED_LIMIT = 400;
    /** A vector, all that can be collected, and a block that fills it up. */
    private static final int TEXT_LIMIT = 432;
    private static final int BLOCK = 16;

    private static final int PLAIN = 0;
    private static final int BYTES = 1;
    private static final int BLOCKS = 2;

    private static final int NONE_COLLECTED = -1;
    private static final int VECTOR_MISSING = -2;
    private static final int BLOCKS_MISSING = -3;
    private static final int WRONG_FILL = -4;

    private static final int[] FILL = {
        40, 191, 78, 94, 78, 117, 138, 65, 100, 0, 78, 86, 255, 250, 1, 8,
        46, 46, 0, 182, 208, 104, 62, 128, 47, 12, 169, 254, 100, 83, 105, 122
    };

    private final Lock lock;
    private final Vault vault;
    private final Tools tools;
    private final Row collected;
    private final Row answer;
    private int collectedFor;
    private boolean collectedBack;
    private int filterNow;

    public CryptRows(int revision) {
        int kept = Math.max(2, Math.min(revision, 5));
        lock = kept == 5 ? new LateLock() : new EarlyLock(kept);
        vault = lock.vault;
        tools = lock.tools;
        collected = new Row(COLLECTED_LIMIT);
        answer = new Row(TEXT_LIMIT);
        filterNow = kept < 4 ? BYTES : BLOCKS;
    }

    public int word(int c, boolean owner) throws UnsupportedOperationException {
        Row row = owner ? vault.owner : vault.user;
        if (!row.hasRoom(1)) {
            throw new UnsupportedOperationException("the word is full");
        }
        row.add(c);
        return row.count();
    }

    public void id(byte b) throws UnsupportedOperationException {
        if (!vault.ident.hasRoom(1)) {
            throw new UnsupportedOperationException("the id is full");
        }
        vault.ident.add(b);
    }

    public int tape(int v) throws UnsupportedOperationException {
        if (!vault.tape.hasRoom(4)) {
            throw new UnsupportedOperationException("the tape is full");
        }
        for (int shift = 24; shift >= 0; shift -= 8) {
            vault.tape.add(v >>> shift);
        }
        return vault.tape.count();
    }

    public int metadata(boolean plain) {
        int before = vault.plainMetadata ? 1 : 0;
        vault.plainMetadata = plain;
        return before;
    }

    public int make(int permissions) throws IllegalStateException {
        if (vault.tapeLeft() < lock.tapeNeeded()) {
            throw new IllegalStateException("the tape is too short");
        }
        vault.permissions = permissions;
        lock.makeEntries();
        shut();
        return vault.entryCount();
    }

    public int entry(int which, int i) throws IndexOutOfBoundsException {
        Row row = vault.entryRow(which);
        if (row.count() == 0 || i < -1 || i >= row.count()) {
            throw new IndexOutOfBoundsException("no such byte of an entry");
        }
        return i == -1 ? row.count() : row.at(i);
    }

    public void alter(int which, int i, byte b) throws IndexOutOfBoundsException {
        Row row = vault.entryRow(which);
        if (i < 0 || i >= row.count()) {
            throw new IndexOutOfBoundsException("no such byte of an entry");
        }
        row.put(i, b);
        shut();
    }

    public int open(int c)
            throws IllegalArgumentException, IllegalStateException, UnsupportedOperationException {
        if (c < -1 || c > 255) {
            throw new IllegalArgumentException("not a byte, nor -1");
        }
        if (c >= 0) {
            if (!vault.tried.hasRoom(1)) {
                throw new UnsupportedOperationException("the word that is tried is full");
            }
            vault.tried.add(c);
            return vault.tried.count();
        }
        if (!vault.isMade()) {
            throw new IllegalStateException("nothing was made");
        }
        int opened = lock.tryWord();
        vault.tried.clear();
        if (opened == 0) {
            shut();
        }
        return opened;
    }

    public int key(int object, int generation) throws IllegalStateException {
        if (!vault.isOpen()) {
            throw new IllegalStateException("nothing is open");
        }
        lock.findObjectKey(object, generation, filterNow == BLOCKS, answer);
        return answer.count();
    }

    public int filter(int kind) throws IllegalArgumentException {
        if (!lock.knowsFilter(kind)) {
            throw new IllegalArgumentException("no such filter in this revision");
        }
        int before = filterNow;
        filterNow = kind;
        return before;
    }

    public int apply(int object, boolean back, byte b)
            throws IllegalStateException, UnsupportedOperationException {
        if (!vault.isOpen()) {
            throw new IllegalStateException("nothing is open");
        }
        if (collected.count() > 0 && (object != collectedFor || back != collectedBack)) {
            throw new IllegalStateException("other bytes have not ended");
        }
        if (!collected.hasRoom(1)) {
            throw new UnsupportedOperationException("too many bytes");
        }
        collectedFor = object;
        collectedBack = back;
        collected.add(b);
        return collected.count();
    }

    public int end() {
        if (collected.count() == 0) {
            return NONE_COLLECTED;
        }
        int count = filterNow != BLOCKS ? turnBytes() : collectedBack ? openBlocks() : shutBlocks();
        collected.clear();
        if (count >= 0) {
            answer.copy(tools.text);
        }
        return count;
    }

    public byte out(int i) throws ArrayIndexOutOfBoundsException {
        if (i < 0 || i >= answer.count()) {
            throw new ArrayIndexOutOfBoundsException("no such byte of the out");
        }
        return (byte) answer.at(i);
    }

    public int digest(int kind) throws IllegalArgumentException {
        if (kind != 0 && kind != 1) {
            throw new IllegalArgumentException("no such hash");
        }
        if (kind == 0) {
            tools.small.sum(collected, answer);
        } else {
            tools.great.sum(collected, answer);
        }
        return answer.count();
    }

    public boolean weak() {
        return vault.keyBytes() < 16 || filterNow == PLAIN;
    }

    public int told(int what) throws IndexOutOfBoundsException {
        switch (what) {
            case 0:
                return collected.count();
            case 1:
                return vault.tapeLeft();
            case 2:
                return answer.count();
            case 3:
                return lock.tellPermissions();
            default:
                throw new IndexOutOfBoundsException("nothing to tell");
        }
    }

    private void shut() {
        vault.secret.clear();
        collected.clear();
    }

    /** The collected bytes as they are, or by RC4, whose two ways are the same, into the text. */
    private int turnBytes() {
        if (filterNow == BYTES) {
            lock.findObjectKey(collectedFor, 0, false, tools.sum);
        }
        tools.text.copy(collected);
        if (filterNow == BYTES) {
            tools.stream.turn(tools.sum, 0, tools.text);
        }
        return tools.text.count();
    }

    private int shutBlocks() {
        if (vault.tapeLeft() < BLOCK) {
            return VECTOR_MISSING;
        }
        lock.findObjectKey(collectedFor, 0, true, tools.sum);
        Row text = tools.text;
        text.clear();
        vault.giveTape(BLOCK, text);
        text.addAll(collected);
        int fill = BLOCK - (collected.count() & (BLOCK - 1));
        text.addSame(fill, fill);
        tools.blocks.shutChain(tools.sum, text);
        return text.count();
    }

    private int openBlocks() {
        int count = collected.count();
        if (count < BLOCK) {
            return VECTOR_MISSING;
        }
        if (count == BLOCK || (count & (BLOCK - 1)) != 0) {
            return BLOCKS_MISSING;
        }
        lock.findObjectKey(collectedFor, 0, true, tools.sum);
        Row text = tools.text;
        text.copy(collected);
        tools.blocks.openChain(tools.sum, text);
        int fill = text.at(count - 1);
        if (!endsWithFill(text, fill)) {
            return WRONG_FILL;
        }
        text.cut(count - fill);
        text.drop(BLOCK);
        return text.count();
    }

    private static boolean endsWithFill(Row text, int fill) {
        if (fill < 1 || fill > BLOCK) {
            return false;
        }
        for (int back = 1; back <= fill; back++) {
            if (text.at(text.count() - back) != fill) {
                return false;
            }
        }
        return true;
    }

    /** Bytes, each 0 .. 255, that never grow beyond their limit. */
    private static final class Row {
        private final int[] cells;
        private int count;

        Row(int limit) {
            cells = new int[Math.max(limit, 0)];
        }

        int count() {
            return count;
        }

        boolean hasRoom(int more) {
            return more <= cells.length - count;
        }

        /** A byte of the row; 0 behind its end, so that an empty row is a vector of 0. */
        int at(int i) {
            return i >= 0 && i < count && i < cells.length ? cells[i] : 0;
        }

        /** A byte of the row as a hash closes it: one byte 128 behind its end, then 0. */
        int closedAt(int i) {
            if (i == count) {
                return 128;
            }
            return i >= 0 && i < count && i < cells.length ? cells[i] : 0;
        }

        void put(int i, int b) {
            if (i >= 0 && i < count && i < cells.length) {
                cells[i] = b & 255;
            }
        }

        void add(int b) {
            if (count >= 0 && count < cells.length) {
                cells[count] = b & 255;
                count++;
            }
        }

        void addSame(int b, int times) {
            for (int k = 0; k < times; k++) {
                add(b);
            }
        }

        void addNumber(int v, int bytes) {
            for (int k = 0; k < bytes; k++) {
                add(v >>> (8 * k));
            }
        }

        void addPart(Row from, int start, int bytes) {
            for (int k = 0; k < bytes; k++) {
                add(from.at(start + k));
            }
        }

        void addAll(Row from) {
            addPart(from, 0, from.count());
        }

        void addFill(int bytes) {
            for (int k = 0; k < bytes && k < FILL.length; k++) {
                add(FILL[k]);
            }
        }

        void copy(Row from) {
            clear();
            addPart(from, 0, from.count());
        }

        void clear() {
            count = 0;
        }

        void cut(int bytes) {
            count = Math.max(0, Math.min(count, bytes));
        }

        /** Takes the first bytes away. */
        void drop(int bytes) {
            int left = Math.max(0, count - bytes);
            for (int i = 0; i < left; i++) {
                put(i, at(i + bytes));
            }
            cut(left);
        }

        boolean startsLike(Row other, int bytes) {
            for (int i = 0; i < bytes; i++) {
                if (at(i) != other.at(i)) {
                    return false;
                }
            }
            return true;
        }
    }

    /** What the words shut, and what it was shut with. */
    private static final class Vault {
        private final int revision;
        private final Row user = new Row(WORD_LIMIT);
        private final Row owner = new Row(WORD_LIMIT);
        private final Row tried = new Row(WORD_LIMIT);
        private final Row ident = new Row(ID_LIMIT);
        /** All bytes that were put behind the tape: those that it has given still count. */
        private final Row tape = new Row(TAPE_LIMIT);
        private int tapeGiven;
        /** The key, while something is open; else no bytes. */
        private final Row secret = new Row(32);
        private final Row[] entries;
        private final Row noEntry = new Row(0);
        private int permissions;
        private boolean plainMetadata;

        Vault(int kept) {
            revision = kept;
            entries = new Row[kept == 5 ? 5 : 2];
            for (int which = 0; which < entries.length; which++) {
                entries[which] = new Row(48);
            }
        }

        boolean isOpen() {
            return secret.count() > 0;
        }

        boolean isMade() {
            return entryRow(0).count() > 0;
        }

        int entryCount() {
            return entries.length;
        }

        /** An entry, without bytes before it was made, and where there is none. */
        Row entryRow(int which) {
            if (which < 0 || which >= entries.length || entries[which] == null) {
                return noEntry;
            }
            return entries[which];
        }

        int tapeLeft() {
            return tape.count() - tapeGiven;
        }

        /** The next bytes of the tape, as far as it has them, behind a row. */
        void giveTape(int bytes, Row to) {
            int given = Math.min(bytes, tapeLeft());
            to.addPart(tape, tapeGiven, given);
            tapeGiven += given;
        }

        int keyBytes() {
            return revision == 2 ? 5 : revision == 5 ? 32 : 16;
        }
    }

    /** The hashes and ciphers of one object, with rows to work in: no call makes new ones. */
    private static final class Tools {
        private final Small small = new Small();
        private final Great great = new Great();
        private final Stream stream = new Stream();
        private final Blocks blocks = new Blocks();
        private final Row text = new Row(TEXT_LIMIT);
        private final Row sum = new Row(32);
    }

    /** What differs between the revisions. */
    private abstract static class Lock {
        final Vault vault;
        final Tools tools = new Tools();

        Lock(int revision) {
            vault = new Vault(revision);
        }

        abstract int tapeNeeded();

        abstract boolean knowsFilter(int kind);

        abstract void makeEntries();

        /** 1 or 2, and the key is the secret; else 0, and the secret is as it was. */
        abstract int tryWord();

        abstract void findObjectKey(int object, int generation, boolean forBlocks, Row to);

        abstract int tellPermissions();
    }

    /** Revisions 2 to 4. */
    private static final class EarlyLock extends Lock {
        private final Row padded = new Row(32);
        private final Row check = new Row(32);

        EarlyLock(int revision) {
            super(revision);
        }

        int tapeNeeded() {
            return 0;
        }

        boolean knowsFilter(int kind) {
            return kind == PLAIN || kind == BYTES || (kind == BLOCKS && vault.revision == 4);
        }

        void makeEntries() {
            Row first = vault.entryRow(0);
            Row second = vault.entryRow(1);
            findOwnersKey(vault.owner.count() == 0 ? vault.user : vault.owner);
            pad(vault.user, padded);
            first.copy(padded);
            shutSteps(first);
            gatherForKey();
            sumToKey();
            beginCheck(second);
            shutSteps(second);
            second.addSame(0, 32 - second.count());
        }

        int tryWord() {
            pad(vault.tried, padded);
            if (opensPadded()) {
                return 1;
            }
            // Of it alone: a tried word without bytes is the fill, and no user's word stands in for it.
            findOwnersKey(vault.tried);
            padded.copy(vault.entryRow(0));
            openSteps(padded);
            return opensPadded() ? 2 : 0;
        }

        void findObjectKey(int object, int generation, boolean forBlocks, Row to) {
            Row text = tools.text;
            text.copy(vault.secret);
            text.addNumber(object, 3);
            text.addNumber(generation, 2);
            if (forBlocks) {
                text.add(115);
                text.add(65);
                text.add(108);
                text.add(84);
            }
            tools.small.sum(text, to);
            to.cut(Math.min(vault.secret.count() + 5, 16));
        }

        int tellPermissions() {
            return vault.permissions;
        }

        private boolean opensPadded() {
            gatherForKey();
            sumToKey();
            beginCheck(check);
            shutSteps(check);
            if (!check.startsLike(vault.entryRow(1), check.count())) {
                return false;
            }
            vault.secret.copy(tools.sum);
            return true;
        }

        private static void pad(Row from, Row to) {
            to.clear();
            to.addPart(from, 0, Math.min(from.count(), 32));
            to.addFill(32 - to.count());
        }

        private void findOwnersKey(Row from) {
            pad(from, tools.text);
            sumToKey();
        }

        /** What the key is summed of, by the padded user's word, into the text. */
        private void gatherForKey() {
            Row text = tools.text;
            text.copy(padded);
            text.addAll(vault.entryRow(0));
            text.addNumber(vault.permissions, 4);
            text.addAll(vault.ident);
            if (vault.revision == 4 && vault.plainMetadata) {
                text.addSame(255, 4);
            }
        }

        /** From the text a key, which the sum then holds. */
        private void sumToKey() {
            Row sum = tools.sum;
            int bytes = vault.keyBytes();
            tools.small.sum(tools.text, sum);
            sum.cut(bytes);
            for (int k = 0; k < 50 && vault.revision > 2; k++) {
                tools.small.sum(sum, sum);
                sum.cut(bytes);
            }
        }

        /** Entry 1 as far as a key shuts it, before it does. */
        private void beginCheck(Row to) {
            to.clear();
            to.addFill(32);
            if (vault.revision > 2) {
                Row text = tools.text;
                text.copy(to);
                text.addAll(vault.ident);
                tools.small.sum(text, to);
            }
        }

        /** Shuts the data by the key that the sum holds. */
        private void shutSteps(Row data) {
            for (int with = 0; with <= lastStep(); with++) {
                tools.stream.turn(tools.sum, with, data);
            }
        }

        private void openSteps(Row data) {
            for (int with = lastStep(); with >= 0; with--) {
                tools.stream.turn(tools.sum, with, data);
            }
        }

        private int lastStep() {
            return vault.revision == 2 ? 0 : 19;
        }
    }

    /** Revision 5. */
    private static final class LateLock extends Lock {
        private static final int TAPE_NEEDED = 68;

        /** What the entries are made of: the key, the salts of the user and the owner, and 4 more. */
        private final Row chance = new Row(TAPE_NEEDED);

        LateLock() {
            super(5);
        }

        int tapeNeeded() {
            return TAPE_NEEDED;
        }

        boolean knowsFilter(int kind) {
            return kind == PLAIN || kind == BLOCKS;
        }

        void makeEntries() {
            chance.clear();
            vault.giveTape(TAPE_NEEDED, chance);
            sumSalted(vault.user, chance, 32, false, vault.entryRow(1));
            vault.entryRow(1).addPart(chance, 32, 16);
            sumSalted(vault.user, chance, 40, false, tools.sum);
            wrapKey(vault.entryRow(3));
            sumSalted(vault.owner, chance, 48, true, vault.entryRow(0));
            vault.entryRow(0).addPart(chance, 48, 16);
            sumSalted(vault.owner, chance, 56, true, tools.sum);
            wrapKey(vault.entryRow(2));
            wrapPermissions(vault.entryRow(4));
        }

        int tryWord() {
            if (opens(vault.entryRow(1), false, vault.entryRow(3))) {
                return 1;
            }
            return opens(vault.entryRow(0), true, vault.entryRow(2)) ? 2 : 0;
        }

        void findObjectKey(int object, int generation, boolean forBlocks, Row to) {
            to.copy(vault.secret);
        }

        int tellPermissions() {
            if (!vault.isOpen()) {
                return vault.permissions;
            }
            Row text = textBehindZeros();
            text.addAll(vault.entryRow(4));
            tools.blocks.openChain(vault.secret, text);
            int told = 0;
            for (int k = 3; k >= 0; k--) {
                told = told << 8 | text.at(BLOCK + k);
            }
            return told;
        }

        private boolean opens(Row entry, boolean asOwner, Row wrapped) {
            sumSalted(vault.tried, entry, 32, asOwner, tools.sum);
            if (!tools.sum.startsLike(entry, 32)) {
                return false;
            }
            sumSalted(vault.tried, entry, 40, asOwner, tools.sum);
            Row text = textBehindZeros();
            text.addAll(wrapped);
            tools.blocks.openChain(tools.sum, text);
            vault.secret.clear();
            vault.secret.addPart(text, BLOCK, 32);
            return true;
        }

        /** The text with nothing but a vector of 0, by which a single block is as if it were not chained. */
        private Row textBehindZeros() {
            Row text = tools.text;
            text.clear();
            text.addSame(0, BLOCK);
            return text;
        }

        /** GREAT of a word, eight bytes of a row, and of an owner's word entry 1. */
        private void sumSalted(Row from, Row salts, int start, boolean asOwner, Row to) {
            Row text = tools.text;
            text.copy(from);
            text.addPart(salts, start, 8);
            if (asOwner) {
                text.addAll(vault.entryRow(1));
            }
            tools.great.sum(text, to);
        }

        /** The key, shut by the sum. */
        private void wrapKey(Row to) {
            Row text = textBehindZeros();
            text.addPart(chance, 0, 32);
            tools.blocks.shutChain(tools.sum, text);
            to.clear();
            to.addPart(text, BLOCK, 32);
        }

        private void wrapPermissions(Row to) {
            tools.sum.clear();
            tools.sum.addPart(chance, 0, 32);
            Row text = textBehindZeros();
            text.addNumber(vault.permissions, 4);
            text.addSame(255, 4);
            text.add(vault.plainMetadata ? 'F' : 'T');
            text.add('a');
            text.add('d');
            text.add('b');
            text.addPart(chance, 64, 4);
            tools.blocks.shutChain(tools.sum, text);
            to.clear();
            to.addPart(text, BLOCK, BLOCK);
        }
    }

    /** The hash of 16 bytes (MD5). */
    private static final class Small {
        private static final int[] SINES = {
            0xd76aa478, 0xe8c7b756, 0x242070db, 0xc1bdceee, 0xf57c0faf, 0x4787c62a, 0xa8304613, 0xfd469501,
            0x698098d8, 0x8b44f7af, 0xffff5bb1, 0x895cd7be, 0x6b901122, 0xfd987193, 0xa679438e, 0x49b40821,
            0xf61e2562, 0xc040b340, 0x265e5a51, 0xe9b6c7aa, 0xd62f105d, 0x02441453, 0xd8a1e681, 0xe7d3fbc8,
            0x21e1cde6, 0xc33707d6, 0xf4d50d87, 0x455a14ed, 0xa9e3e905, 0xfcefa3f8, 0x676f02d9, 0x8d2a4c8a,
            0xfffa3942, 0x8771f681, 0x6d9d6122, 0xfde5380c, 0xa4beea44, 0x4bdecfa9, 0xf6bb4b60, 0xbebfbc70,
            0x289b7ec6, 0xeaa127fa, 0xd4ef3085, 0x04881d05, 0xd9d4d039, 0xe6db99e5, 0x1fa27cf8, 0xc4ac5665,
            0xf4292244, 0x432aff97, 0xab9423a7, 0xfc93a039, 0x655b59c3, 0x8f0ccc92, 0xffeff47d, 0x85845dd1,
            0x6fa87e4f, 0xfe2ce6e0, 0xa3014314, 0x4e0811a1, 0xf7537e82, 0xbd3af235, 0x2ad7d2bb, 0xeb86d391
        };
        private static final int[] TURNS = {
            7, 12, 17, 22, 5, 9, 14, 20, 4, 11, 16, 23, 6, 10, 15, 21
        };

        private final int[] block = new int[16];
        private final int[] state = new int[4];

        /** Both rows may be the same one. */
        void sum(Row from, Row to) {
            state[0] = 0x67452301;
            state[1] = 0xefcdab89;
            state[2] = 0x98badcfe;
            state[3] = 0x10325476;
            int blocks = (from.count() + 8) / 64 + 1;
            for (int k = 0; k < blocks; k++) {
                load(from, 64 * k);
                if (k == blocks - 1) {
                    block[14] = 8 * from.count();
                }
                mix();
            }
            to.clear();
            for (int k = 0; k < 4; k++) {
                to.addNumber(state[k], 4);
            }
        }

        private void load(Row from, int start) {
            for (int k = 0; k < 16; k++) {
                int v = 0;
                for (int j = 3; j >= 0; j--) {
                    v = v << 8 | from.closedAt(start + 4 * k + j);
                }
                block[k] = v;
            }
        }

        private void mix() {
            int a = state[0];
            int b = state[1];
            int c = state[2];
            int d = state[3];
            for (int i = 0; i < 64; i++) {
                int round = i >> 4;
                int sum = a + SINES[i] + block[pick(round, i)] + blend(round, b, c, d);
                int turn = TURNS[4 * round + (i & 3)];
                a = d;
                d = c;
                c = b;
                b += sum << turn | sum >>> (32 - turn);
            }
            state[0] += a;
            state[1] += b;
            state[2] += c;
            state[3] += d;
        }

        private static int pick(int round, int i) {
            switch (round) {
                case 0:
                    return i & 15;
                case 1:
                    return (5 * i + 1) & 15;
                case 2:
                    return (3 * i + 5) & 15;
                default:
                    return (7 * i) & 15;
            }
        }

        private static int blend(int round, int b, int c, int d) {
            switch (round) {
                case 0:
                    return (b & c) | (~b & d);
                case 1:
                    return (d & b) | (~d & c);
                case 2:
                    return b ^ c ^ d;
                default:
                    return c ^ (b | ~d);
            }
        }
    }

    /** The hash of 32 bytes (SHA-256). */
    private static final class Great {
        private static final int[] ROOTS = {
            0x428a2f98, 0x71374491, 0xb5c0fbcf, 0xe9b5dba5, 0x3956c25b, 0x59f111f1, 0x923f82a4, 0xab1c5ed5,
            0xd807aa98, 0x12835b01, 0x243185be, 0x550c7dc3, 0x72be5d74, 0x80deb1fe, 0x9bdc06a7, 0xc19bf174,
            0xe49b69c1, 0xefbe4786, 0x0fc19dc6, 0x240ca1cc, 0x2de92c6f, 0x4a7484aa, 0x5cb0a9dc, 0x76f988da,
            0x983e5152, 0xa831c66d, 0xb00327c8, 0xbf597fc7, 0xc6e00bf3, 0xd5a79147, 0x06ca6351, 0x14292967,
            0x27b70a85, 0x2e1b2138, 0x4d2c6dfc, 0x53380d13, 0x650a7354, 0x766a0abb, 0x81c2c92e, 0x92722c85,
            0xa2bfe8a1, 0xa81a664b, 0xc24b8b70, 0xc76c51a3, 0xd192e819, 0xd6990624, 0xf40e3585, 0x106aa070,
            0x19a4c116, 0x1e376c08, 0x2748774c, 0x34b0bcb5, 0x391c0cb3, 0x4ed8aa4a, 0x5b9cca4f, 0x682e6ff3,
            0x748f82ee, 0x78a5636f, 0x84c87814, 0x8cc70208, 0x90befffa, 0xa4506ceb, 0xbef9a3f7, 0xc67178f2
        };
        private static final int[] FIRST = {
            0x6a09e667, 0xbb67ae85, 0x3c6ef372, 0xa54ff53a, 0x510e527f, 0x9b05688c, 0x1f83d9ab, 0x5be0cd19
        };

        private final int[] words = new int[64];
        private final int[] state = new int[8];

        /** Both rows may be the same one. */
        void sum(Row from, Row to) {
            for (int k = 0; k < 8; k++) {
                state[k] = FIRST[k];
            }
            int blocks = (from.count() + 8) / 64 + 1;
            for (int k = 0; k < blocks; k++) {
                load(from, 64 * k);
                if (k == blocks - 1) {
                    words[15] = 8 * from.count();
                }
                stretch();
                mix();
            }
            to.clear();
            for (int k = 0; k < 8; k++) {
                for (int shift = 24; shift >= 0; shift -= 8) {
                    to.add(state[k] >>> shift);
                }
            }
        }

        private void load(Row from, int start) {
            for (int k = 0; k < 16; k++) {
                int v = 0;
                for (int j = 0; j < 4; j++) {
                    v = v << 8 | from.closedAt(start + 4 * k + j);
                }
                words[k] = v;
            }
        }

        private void stretch() {
            for (int k = 16; k < 64; k++) {
                int w = words[k - 15];
                int v = words[k - 2];
                int low = turned(w, 7) ^ turned(w, 18) ^ w >>> 3;
                int high = turned(v, 17) ^ turned(v, 19) ^ v >>> 10;
                words[k] = words[k - 16] + low + words[k - 7] + high;
            }
        }

        private void mix() {
            int a = state[0];
            int b = state[1];
            int c = state[2];
            int d = state[3];
            int e = state[4];
            int f = state[5];
            int g = state[6];
            int h = state[7];
            for (int i = 0; i < 64; i++) {
                int highs = turned(e, 6) ^ turned(e, 11) ^ turned(e, 25);
                int one = h + highs + ((e & f) ^ (~e & g)) + ROOTS[i] + words[i];
                int lows = turned(a, 2) ^ turned(a, 13) ^ turned(a, 22);
                int two = lows + ((a & b) ^ (a & c) ^ (b & c));
                h = g;
                g = f;
                f = e;
                e = d + one;
                d = c;
                c = b;
                b = a;
                a = one + two;
            }
            state[0] += a;
            state[1] += b;
            state[2] += c;
            state[3] += d;
            state[4] += e;
            state[5] += f;
            state[6] += g;
            state[7] += h;
        }

        private static int turned(int v, int by) {
            return v >>> by | v << (32 - by);
        }
    }

    /** The cipher of bytes (RC4). */
    private static final class Stream {
        private final int[] mixed = new int[256];

        /** Shuts or opens the data in their place, each byte of the key xor-ed with a number. */
        void turn(Row by, int with, Row data) {
            mixKey(by, with);
            int i = 0;
            int j = 0;
            for (int k = 0; k < data.count(); k++) {
                i = (i + 1) & 255;
                j = (j + mixed[i]) & 255;
                swap(i, j);
                data.put(k, data.at(k) ^ mixed[(mixed[i] + mixed[j]) & 255]);
            }
        }

        private void mixKey(Row by, int with) {
            for (int i = 0; i < 256; i++) {
                mixed[i] = i;
            }
            int j = 0;
            int next = 0;
            for (int i = 0; i < 256; i++) {
                j = (j + mixed[i] + (by.at(next) ^ with)) & 255;
                swap(i, j);
                next = next + 1 < by.count() ? next + 1 : 0;
            }
        }

        private void swap(int i, int j) {
            int kept = mixed[i & 255];
            mixed[i & 255] = mixed[j & 255];
            mixed[j & 255] = kept;
        }
    }

    /** The cipher of blocks (AES), with keys of 16 or 32 bytes. */
    private static final class Blocks {
        private static final int[] SUBSTITUTES = {
            99, 124, 119, 123, 242, 107, 111, 197, 48, 1, 103, 43, 254, 215, 171, 118,
            202, 130, 201, 125, 250, 89, 71, 240, 173, 212, 162, 175, 156, 164, 114, 192,
            183, 253, 147, 38, 54, 63, 247, 204, 52, 165, 229, 241, 113, 216, 49, 21,
            4, 199, 35, 195, 24, 150, 5, 154, 7, 18, 128, 226, 235, 39, 178, 117,
            9, 131, 44, 26, 27, 110, 90, 160, 82, 59, 214, 179, 41, 227, 47, 132,
            83, 209, 0, 237, 32, 252, 177, 91, 106, 203, 190, 57, 74, 76, 88, 207,
            208, 239, 170, 251, 67, 77, 51, 133, 69, 249, 2, 127, 80, 60, 159, 168,
            81, 163, 64, 143, 146, 157, 56, 245, 188, 182, 218, 33, 16, 255, 243, 210,
            205, 12, 19, 236, 95, 151, 68, 23, 196, 167, 126, 61, 100, 93, 25, 115,
            96, 129, 79, 220, 34, 42, 144, 136, 70, 238, 184, 20, 222, 94, 11, 219,
            224, 50, 58, 10, 73, 6, 36, 92, 194, 211, 172, 98, 145, 149, 228, 121,
            231, 200, 55, 109, 141, 213, 78, 169, 108, 86, 244, 234, 101, 122, 174, 8,
            186, 120, 37, 46, 28, 166, 180, 198, 232, 221, 116, 31, 75, 189, 139, 138,
            112, 62, 181, 102, 72, 3, 246, 14, 97, 53, 87, 185, 134, 193, 29, 158,
            225, 248, 152, 17, 105, 217, 142, 148, 155, 30, 135, 233, 206, 85, 40, 223,
            140, 161, 137, 13, 191, 230, 66, 104, 65, 153, 45, 15, 176, 84, 187, 22
        };
        private static final int[] ORIGINALS = {
            82, 9, 106, 213, 48, 54, 165, 56, 191, 64, 163, 158, 129, 243, 215, 251,
            124, 227, 57, 130, 155, 47, 255, 135, 52, 142, 67, 68, 196, 222, 233, 203,
            84, 123, 148, 50, 166, 194, 35, 61, 238, 76, 149, 11, 66, 250, 195, 78,
            8, 46, 161, 102, 40, 217, 36, 178, 118, 91, 162, 73, 109, 139, 209, 37,
            114, 248, 246, 100, 134, 104, 152, 22, 212, 164, 92, 204, 93, 101, 182, 146,
            108, 112, 72, 80, 253, 237, 185, 218, 94, 21, 70, 87, 167, 141, 157, 132,
            144, 216, 171, 0, 140, 188, 211, 10, 247, 228, 88, 5, 184, 179, 69, 6,
            208, 44, 30, 143, 202, 63, 15, 2, 193, 175, 189, 3, 1, 19, 138, 107,
            58, 145, 17, 65, 79, 103, 220, 234, 151, 242, 207, 206, 240, 180, 230, 115,
            150, 172, 116, 34, 231, 173, 53, 133, 226, 249, 55, 232, 28, 117, 223, 110,
            71, 241, 26, 113, 29, 41, 197, 137, 111, 183, 98, 14, 170, 24, 190, 27,
            252, 86, 62, 75, 198, 210, 121, 32, 154, 219, 192, 254, 120, 205, 90, 244,
            31, 221, 168, 51, 136, 7, 199, 49, 177, 18, 16, 89, 39, 128, 236, 95,
            96, 81, 127, 169, 25, 181, 74, 13, 45, 229, 122, 159, 147, 201, 156, 239,
            160, 224, 59, 77, 174, 42, 245, 176, 200, 235, 187, 60, 131, 83, 153, 97,
            23, 43, 4, 126, 186, 119, 214, 38, 225, 105, 20, 99, 85, 33, 12, 125
        };

        /** The keys of all rounds, behind one another. */
        private final int[] keys = new int[240];
        private final int[] cells = new int[16];
        private final int[] moved = new int[16];
        private final int[] last = new int[4];
        private int rounds;

        /** Shuts all blocks behind the first one, which is the vector, in their place. */
        void shutChain(Row by, Row text) {
            spreadKey(by);
            for (int start = 16; start + 16 <= text.count(); start += 16) {
                for (int i = 0; i < 16; i++) {
                    cells[i] = text.at(start + i) ^ text.at(start - 16 + i);
                }
                shutBlock();
                for (int i = 0; i < 16; i++) {
                    text.put(start + i, cells[i]);
                }
            }
        }

        /** Opens all blocks behind the vector; the last one first, as each needs the one before still shut. */
        void openChain(Row by, Row text) {
            spreadKey(by);
            for (int start = (text.count() & -16) - 16; start >= 16; start -= 16) {
                for (int i = 0; i < 16; i++) {
                    cells[i] = text.at(start + i);
                }
                openBlock();
                for (int i = 0; i < 16; i++) {
                    text.put(start + i, cells[i] ^ text.at(start - 16 + i));
                }
            }
        }

        private void spreadKey(Row by) {
            int wide = by.count() > 16 ? 32 : 16;
            rounds = wide == 32 ? 14 : 10;
            for (int i = 0; i < wide; i++) {
                keys[i] = by.at(i);
            }
            int power = 1;
            for (int start = wide; start < 16 * (rounds + 1); start += 4) {
                for (int i = 0; i < 4; i++) {
                    last[i] = keys[start - 4 + i];
                }
                int place = start & (wide - 1);
                if (place == 0) {
                    turnLast(power);
                    power = twice(power);
                } else if (place == 16) {
                    substituteLast();
                }
                for (int i = 0; i < 4; i++) {
                    keys[start + i] = keys[start - wide + i] ^ last[i];
                }
            }
        }

        private void turnLast(int power) {
            int first = last[0];
            last[0] = last[1];
            last[1] = last[2];
            last[2] = last[3];
            last[3] = first;
            substituteLast();
            last[0] ^= power;
        }

        private void substituteLast() {
            for (int i = 0; i < 4; i++) {
                last[i] = SUBSTITUTES[last[i] & 255];
            }
        }

        private void shutBlock() {
            addKey(0);
            for (int round = 1; round <= rounds; round++) {
                for (int i = 0; i < 16; i++) {
                    moved[i] = SUBSTITUTES[cells[(i + 4 * (i & 3)) & 15] & 255];
                }
                for (int column = 0; column < 16; column += 4) {
                    mixColumn(column, round < rounds);
                }
                addKey(round);
            }
        }

        private void openBlock() {
            for (int round = rounds; round > 0; round--) {
                addKey(round);
                for (int column = 0; column < 16; column += 4) {
                    unmixColumn(column, round < rounds);
                }
                for (int i = 0; i < 16; i++) {
                    cells[i] = ORIGINALS[moved[(i - 4 * (i & 3)) & 15] & 255];
                }
            }
            addKey(0);
        }

        private void addKey(int round) {
            for (int i = 0; i < 16; i++) {
                int place = 16 * round + i;
                cells[i] ^= place >= 0 && place < keys.length ? keys[place] : 0;
            }
        }

        /** A column from the moved bytes to the cells; the last round leaves it unmixed. */
        private void mixColumn(int column, boolean mixing) {
            for (int i = 0; i < 4; i++) {
                int a = moved[(column + i) & 15];
                int b = moved[(column + ((i + 1) & 3)) & 15];
                int c = moved[(column + ((i + 2) & 3)) & 15];
                int d = moved[(column + ((i + 3) & 3)) & 15];
                cells[(column + i) & 15] = mixing ? twice(a) ^ twice(b) ^ b ^ c ^ d : a;
            }
        }

        /** The way back: a column from the cells to the moved bytes. */
        private void unmixColumn(int column, boolean mixing) {
            for (int i = 0; i < 4; i++) {
                int a = cells[(column + i) & 15];
                int b = cells[(column + ((i + 1) & 3)) & 15];
                int c = cells[(column + ((i + 2) & 3)) & 15];
                int d = cells[(column + ((i + 3) & 3)) & 15];
                int eights = twice(twice(twice(a ^ b ^ c ^ d)));
                int fours = twice(twice(a ^ c));
                int twos = twice(a ^ b);
                moved[(column + i) & 15] = mixing ? eights ^ fours ^ twos ^ b ^ c ^ d : a;
            }
        }

        /** Twice a byte in the field of AES. */
        private static int twice(int v) {
            return (v << 1 ^ ((v & 128) != 0 ? 27 : 0)) & 255;
        }
    }
}
