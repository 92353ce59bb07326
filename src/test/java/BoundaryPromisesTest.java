import java.util.Arrays;
import javax.crypto.Cipher;

/** Each sentence of the promises 1 to 17 that names a boundary case. */
public final class BoundaryPromisesTest extends Sentences {
    private static final int[] FAR = {Integer.MIN_VALUE, Integer.MAX_VALUE};

    public static void main(String[] args) {
        revisions();
        newObjectIsEmpty();
        newObjectsFilter();
        newObjectsMetadata();
        lowestEightBits();
        howManyOfAWord();
        fullWord();
        idLeavesWhatStands();
        idIsLookedAtByOpen();
        wordsAreLookedAtByMake();
        fullId();
        tapeHighestFirst();
        howManyOfTheTape();
        fullTape();
        fullTapeOfGivenOnes();
        whatMetadataWere();
        metadataLeaveWhatStands();
        howManyEntries();
        makeShuts();
        tapeTooShort();
        tapeTooShortBehindEnd();
        noTapeNeeded();
        byteOfAnEntry();
        howManyOfAnEntry();
        noSuchByteOfAnEntry();
        noEntryBeforeMake();
        alteredByte();
        alteredToAnothers();
        alterShuts();
        noSuchByteToAlter();
        nothingToAlterBeforeMake();
        bytesThatAreTried();
        triedAndGone();
        notOpened();
        wrongByteToTry();
        triedBeforeMake();
        fullTriedWord();
        keyIsTheOut();
        lowestBitsOfAKey();
        keyOfNothingOpen();
        whatTheFilterWas();
        endGoesByTheFilterOfThen();
        noSuchFilter();
        generation0();
        applyToNothingOpen();
        applyToAnotherObject();
        applyTheOtherWay();
        fullCollected();
        firstNamedOfApply();
        endOfNone();
        endWithoutAVectorOfTheTape();
        endWithoutAVectorOfTheBytes();
        endWithoutWholeBlocks();
        endWithAWrongFill();
        endWithAWholeFill();
        endOfAllThatFits();
        outOfRange();
        bytesOfTheOut();
        digestsStay();
        digestOfNone();
        noSuchDigest();
        fewerThan16Bytes();
        orFilter0();
        toldNumbers();
        toldPermissions();
        toldPermissionsByEntry4();
        nothingToTell();
        exit();
    }

    private static int keyBytes(int revision) {
        return revision == 2 ? 10 : revision == 5 ? 32 : 16;
    }

    // Promise 1

    private static void revisions() {
        says("A revision (below 3 it is 2, above 4 it is 5)");
        int[][] asked = {
            {Integer.MIN_VALUE, 2}, {-1, 2}, {0, 2}, {1, 2}, {2, 2},
            {3, 3}, {4, 4}, {5, 5}, {6, 5}, {Integer.MAX_VALUE, 5}
        };
        for (int[] row : asked) {
            Pair x = new Pair(row[0]);
            int revision = row[1];
            due("weak: only 2", x.weak(), revision == 2 ? 1 : 0);
            due("filter 1: not 5", x.filter(1), revision == 5 ? ARGUMENT : revision == 4 ? 2 : 1);
            due("filter 2: not 2 and 3", x.filter(2), revision < 4 ? ARGUMENT : revision == 4 ? 1 : 2);
            due("make without a tape: not 5", x.make(1), revision == 5 ? STATE : 2);
            x.tapes(17);
            due("make with a tape", x.make(1), revision == 5 ? 5 : 2);
            x.open(-1);
            due("the key", x.key(1, 1), keyBytes(revision));
            ended(x);
        }
    }

    private static void newObjectIsEmpty() {
        says("no words, no id, an empty tape, nothing made or open");
        for (int revision : ALL) {
            Pair x = new Pair(revision);
            due("nothing made", x.entry(0, -1), INDEX);
            due("nothing made", x.entry(1, -1), INDEX);
            due("nothing made", x.open(-1), STATE);
            due("nothing open", x.key(0, 0), STATE);
            due("nothing open", x.apply(0, false, 0), STATE);
            due("nothing collected", x.told(0), 0);
            due("an empty tape", x.told(1), 0);
            due("no out", x.told(2), 0);
            due("no out", x.out(0), ARRAY_INDEX);
            due("a tape that was empty", x.tape(1), 4);
            x.tapes(16);
            x.make(1);
            due("words without bytes", x.open(-1), 1);
            x.seeAll();
            due("a word that was empty", x.word(1, false), 1);
            due("a word that was empty", x.word(1, true), 1);
            due("a word that was empty", x.open(1), 1);
            for (int n = 1; n <= 32; n++) {
                due("an id that was empty", x.id(n), 0);
            }
            due("and is full", x.id(0), UNSUPPORTED);
            ended(x);
        }
    }

    private static void newObjectsFilter() {
        says("the filter is 1 for 2 and 3, else 2");
        for (int revision : ALL) {
            Pair x = new Pair(revision);
            due("the first filter", x.filter(0), revision < 4 ? 1 : 2);
            ended(x);
        }
    }

    private static void newObjectsMetadata() {
        says("metadata are not plain.");
        for (int revision : ALL) {
            Pair x = new Pair(revision);
            due("not plain", x.metadata(true), 0);
            ended(x);
        }
    }

    // Promise 2

    private static void lowestEightBits() {
        says("A byte (its lowest eight bits) behind the user's word, or the owner's");
        int[][] asked = {
            {0, 0}, {255, 255}, {256, 0}, {-1, 255},
            {-256, 0}, {0x7fffff41, 0x41}, {Integer.MIN_VALUE, 0}, {Integer.MAX_VALUE, 255}
        };
        for (int revision : ALL) {
            for (int[] row : asked) {
                Pair x = new Pair(revision);
                x.tapes(17);
                due("the user's", x.word(row[0], false), 1);
                x.word('x', true);
                x.word(row[0], true);
                x.make(1);
                due("the user's of " + row[0], x.tryWord(Model.bytes(row[1])), 1);
                due("the owner's of " + row[0], x.tryWord(Model.bytes('x', row[1])), 2);
                due("another one", x.tryWord(Model.bytes(row[1] ^ 128)), 0);
                ended(x);
            }
        }
    }

    private static void howManyOfAWord() {
        says("behind the user's word, or the owner's: how many it has.");
        Pair x = new Pair(3);
        due("the user's", x.word(1, false), 1);
        due("the owner's", x.word(1, true), 1);
        due("the owner's", x.word(2, true), 2);
        due("the owner's", x.word(3, true), 3);
        due("the user's", x.word(2, false), 2);
        ended(x);
    }

    private static void fullWord() {
        says("UnsupportedOperationException when there are 127.");
        for (int revision : ALL) {
            for (boolean owner : new boolean[] {false, true}) {
                Pair x = new Pair(revision);
                x.tapes(17);
                x.words(owner, counted(1, 126));
                due("the 127th", x.word(7, owner), 127);
                due("a 128th", x.word(7, owner), UNSUPPORTED);
                due("a 128th", x.word(-1, owner), UNSUPPORTED);
                due("the other word", x.word(7, !owner), 1);
                x.make(1);
                due("127 bytes", x.tryWord(Model.join(counted(1, 126), Model.bytes(7))), owner ? 2 : 1);
                ended(x);
            }
        }
    }

    // Promise 3

    private static void idLeavesWhatStands() {
        says("A byte behind the id (entries that were made, and what is open, stay");
        for (int revision : ALL) {
            Pair x = opened(revision);
            x.applyAll(1, false, text("ab"));
            due("a byte", x.id(-128), 0);
            x.seeAll();
            due("what is collected stays", x.apply(1, false, 'c'), 3);
            due("the key stays", x.key(1, 0), keyBytes(revision));
            x.seeOut();
            ended(x);
        }
    }

    private static void idIsLookedAtByOpen() {
        says("open() goes by the id and metadata as they are then");
        for (int revision : ALL) {
            Pair x = opened(revision);
            x.id(0);
            due("the user's", x.tryWord(text("user")), revision == 5 ? 1 : 0);
            due("the owner's", x.tryWord(text("owner")), revision == 5 ? 2 : 0);
            x.make(1);
            due("made by that id", x.tryWord(text("user")), 1);
            ended(x);
            x = opened(revision);
            x.metadata(true);
            due("the user's", x.tryWord(text("user")), revision == 4 ? 0 : 1);
            due("the owner's", x.tryWord(text("owner")), revision == 4 ? 0 : 2);
            x.metadata(false);
            due("as they were", x.tryWord(text("user")), 1);
            ended(x);
        }
    }

    private static void wordsAreLookedAtByMake() {
        says("words are looked at by make() alone");
        for (int revision : ALL) {
            Pair x = made(revision);
            x.words(false, text("s"));
            x.words(true, text("s"));
            due("the user's as made", x.tryWord(text("user")), 1);
            due("the owner's as made", x.tryWord(text("owner")), 2);
            due("not the user's of now", x.tryWord(text("users")), 0);
            x.make(1);
            due("the user's made again", x.tryWord(text("users")), 1);
            due("the owner's made again", x.tryWord(text("owners")), 2);
            due("not as made before", x.tryWord(text("user")), 0);
            ended(x);
        }
    }

    private static void fullId() {
        says("UnsupportedOperationException when there are 32.");
        for (int revision : ALL) {
            Pair x = quick(revision, 0);
            x.ids(31);
            due("the 32nd", x.id(1), 0);
            due("a 33rd", x.id(1), UNSUPPORTED);
            due("and again", x.id(-1), UNSUPPORTED);
            x.seeAll();
            ended(x);
        }
    }

    // Promise 4

    private static void tapeHighestFirst() {
        says("Four bytes behind the tape, the highest first");
        Pair x = new Pair(5);
        int[] numbers = {0x01020304, 0xfffefdfc, Integer.MIN_VALUE, Integer.MAX_VALUE, -1, 0, 1, 256};
        for (int v : numbers) {
            x.tape(v);
        }
        x.tapes(9);
        x.make(1);
        x.open(-1);
        x.key(0, 0);
        dueOut(x, 0, Model.bytes(1, 2, 3, 4, 255, 254, 253, 252, 128, 0, 0, 0, 127, 255, 255, 255,
            255, 255, 255, 255, 0, 0, 0, 0, 0, 0, 0, 1, 0, 0, 1, 0));
        ended(x);
    }

    private static void howManyOfTheTape() {
        says("the highest first: how many it has.");
        for (int revision : ALL) {
            Pair x = new Pair(revision);
            for (int n = 1; n <= 21; n++) {
                due("how many", x.tape(n), 4 * n);
            }
            x.make(1);
            due("given ones are had", x.tape(1), 88);
            due("the others are left", x.told(1), revision == 5 ? 20 : 88);
            x.open(-1);
            x.apply(1, false, 1);
            x.end();
            due("given ones are had", x.tape(1), 92);
            due("the others are left", x.told(1), revision == 5 ? 8 : revision == 4 ? 76 : 92);
            ended(x);
        }
    }

    private static void fullTape() {
        says("UnsupportedOperationException when it would have more than 400.");
        for (int revision : ALL) {
            Pair x = new Pair(revision);
            x.tapes(99);
            due("400", x.tape(7), 400);
            due("more", x.tape(7), UNSUPPORTED);
            due("more", x.tape(0), UNSUPPORTED);
            due("all are left", x.told(1), 400);
            x.make(1);
            x.seeAll();
            ended(x);
        }
    }

    private static void fullTapeOfGivenOnes() {
        says("when it would have more than 400.");
        for (int revision : LATE) {
            Pair x = quick(revision, 0);
            x.tapes(revision == 5 ? 82 : 99);
            x.apply(1, false, 1);
            due("a vector", x.end(), 32);
            due("400", x.tape(7), 400);
            due("more, though some are given", x.tape(7), UNSUPPORTED);
            due("the others are left", x.told(1), revision == 5 ? 316 : 384);
            ended(x);
        }
    }

    // Promise 5

    private static void whatMetadataWere() {
        says("Metadata are plain, or not (as with id()): what it was (1, 0).");
        for (int revision : ALL) {
            Pair x = new Pair(revision);
            boolean[] turns = {false, true, true, false, false, true, false};
            boolean was = false;
            for (boolean turn : turns) {
                due("what it was", x.metadata(turn), was ? 1 : 0);
                was = turn;
            }
            ended(x);
        }
    }

    private static void metadataLeaveWhatStands() {
        says("Metadata are plain, or not (as with id())");
        for (int revision : ALL) {
            Pair x = opened(revision);
            x.applyAll(1, false, text("ab"));
            x.metadata(true);
            x.seeAll();
            due("what is collected stays", x.told(0), 2);
            due("what is open stays", x.key(1, 0), keyBytes(revision));
            x.seeOut();
            ended(x);
        }
    }

    // Promise 6

    private static void howManyEntries() {
        says("THE ENTRIES are made: how many (2, or 5)");
        int[][] sizes = {{32, 32}, {32, 32}, {32, 32}, {48, 48, 32, 32, 16}};
        for (int revision : ALL) {
            Pair x = ready(revision);
            int[] due = sizes[revision - 2];
            for (int turn = 0; turn < 2; turn++) {
                due("how many", x.make(1), due.length);
                for (int which = 0; which < due.length; which++) {
                    due("bytes of entry " + which, x.entry(which, -1), due[which]);
                }
                due("no more entries", x.entry(due.length, -1), INDEX);
            }
            ended(x);
        }
    }

    private static void makeShuts() {
        says("how many (2, or 5); nothing is open any more.");
        for (int revision : ALL) {
            Pair x = opened(revision);
            x.applyAll(1, false, text("ab"));
            x.make(-1340);
            due("nothing is open", x.key(1, 0), STATE);
            due("nothing is open", x.apply(1, false, 1), STATE);
            due("nothing is collected", x.told(0), 0);
            due("opened again", x.tryWord(text("user")), 1);
            ended(x);
        }
    }

    private static void tapeTooShort() {
        says("IllegalStateException when the tape has not 68 bytes that are needed (5).");
        Pair x = new Pair(5);
        due("none", x.make(1), STATE);
        x.tapes(16);
        due("64", x.make(1), STATE);
        due("nothing made", x.entry(0, -1), INDEX);
        due("none given", x.told(1), 64);
        due("68", x.tape(1), 68);
        due("68", x.make(7), 5);
        due("none left", x.told(1), 0);
        due("none left of 68", x.make(8), STATE);
        due("opened", x.open(-1), 1);
        x.applyAll(1, false, text("ab"));
        due("none left of 68", x.make(9), STATE);
        due("what is open stays", x.key(1, 0), 32);
        due("what is collected stays", x.told(0), 2);
        due("permissions stay", x.told(3), 7);
        x.tapes(16);
        due("64 more", x.make(1), STATE);
        x.tapes(1);
        due("68 more", x.make(1), 5);
        ended(x);
    }

    private static void tapeTooShortBehindEnd() {
        says("IllegalStateException when the tape has not 68 bytes that are needed (5).");
        Pair x = new Pair(5);
        x.tapes(17 + 4 + 16);
        x.make(7);
        x.open(-1);
        x.apply(1, false, 1);
        due("a vector", x.end(), 32);
        due("64 are left", x.make(8), STATE);
        due("they stay", x.told(1), 64);
        x.tapes(1);
        due("68 are left", x.make(8), 5);
        ended(x);
    }

    private static void noTapeNeeded() {
        says("68 bytes that are needed (5).");
        for (int revision : EARLY) {
            Pair x = new Pair(revision);
            due("an empty tape", x.make(1), 2);
            x.tapes(1);
            due("four bytes", x.make(1), 2);
            due("they stay", x.told(1), 4);
            ended(x);
        }
    }

    // Promise 7

    private static void byteOfAnEntry() {
        says("Byte i of an entry, 0 .. 255");
        for (int revision : ALL) {
            Pair x = made(revision);
            int which = revision == 5 ? 4 : 1;
            int last = revision == 5 ? 15 : 31;
            for (int b : new int[] {-128, -1, 0, 1, 127}) {
                x.alter(which, 0, b);
                x.alter(which, last, b);
                due("the first byte", x.entry(which, 0), b & 255);
                due("the last byte", x.entry(which, last), b & 255);
            }
            ended(x);
        }
    }

    private static void howManyOfAnEntry() {
        says("i = -1: how many.");
        int[] sizes = {48, 48, 32, 32, 16};
        for (int revision : ALL) {
            Pair x = made(revision);
            for (int which = 0; which < (revision == 5 ? 5 : 2); which++) {
                int size = revision == 5 ? sizes[which] : 32;
                due("how many", x.entry(which, -1), size);
                x.alter(which, size - 1, 0);
                due("altered, as many", x.entry(which, -1), size);
            }
            ended(x);
        }
    }

    private static void noSuchByteOfAnEntry() {
        says("IndexOutOfBoundsException (also before they were made).");
        int[] sizes = {48, 48, 32, 32, 16};
        for (int revision : ALL) {
            Pair x = made(revision);
            int entries = revision == 5 ? 5 : 2;
            for (int which = 0; which < entries; which++) {
                int size = revision == 5 ? sizes[which] : 32;
                due("the last byte", x.entry(which, size - 1).equals(INDEX), false);
                for (int i : new int[] {size, size + 1, -2, FAR[0], FAR[1]}) {
                    due("byte " + i, x.entry(which, i), INDEX);
                }
            }
            for (int which : new int[] {-1, entries, FAR[0], FAR[1]}) {
                due("entry " + which, x.entry(which, 0), INDEX);
                due("how many of entry " + which, x.entry(which, -1), INDEX);
            }
            ended(x);
        }
    }

    private static void noEntryBeforeMake() {
        says("(also before they were made).");
        for (int revision : ALL) {
            Pair x = new Pair(revision);
            for (int which = -1; which <= 5; which++) {
                due("a byte of entry " + which, x.entry(which, 0), INDEX);
                due("how many of entry " + which, x.entry(which, -1), INDEX);
            }
            ended(x);
        }
    }

    // Promise 8

    private static void alteredByte() {
        says("Byte i of an entry becomes another one");
        int[] sizes = {48, 48, 32, 32, 16};
        for (int revision : ALL) {
            Pair x = made(revision);
            for (int which = 0; which < (revision == 5 ? 5 : 2); which++) {
                int last = (revision == 5 ? sizes[which] : 32) - 1;
                int next = Integer.parseInt(x.entry(which, 1));
                due("the first byte", x.alter(which, 0, which + 1), 0);
                due("the last byte", x.alter(which, last, -which - 1), 0);
                due("the first byte", x.entry(which, 0), which + 1);
                due("the last byte", x.entry(which, last), 255 - which);
                due("the one beside it", x.entry(which, 1), next);
            }
            ended(x);
        }
    }

    /** What opens is what stands in the entries, whatever words the object was given. */
    private static void alteredToAnothers() {
        says("Byte i of an entry becomes another one");
        for (int revision : ALL) {
            Pair x = made(revision);
            Pair y = new Pair(revision);
            y.words(false, text("other"));
            y.words(true, text("keeper"));
            y.id(7);
            y.id(-7);
            y.tapes(17);
            y.make(-1340);
            byte[][] entries = y.model().entries;
            for (int which = 0; which < entries.length; which++) {
                for (int i = 0; i < entries[which].length; i++) {
                    x.alter(which, i, entries[which][i]);
                }
            }
            due("the other user's", x.tryWord(text("other")), 1);
            String key = keyOf(x, 1, 0);
            due("the other owner's", x.tryWord(text("keeper")), 2);
            due("the same key", keyOf(x, 1, 0), key);
            due("the user's as made", x.tryWord(text("user")), 0);
            due("the owner's as made", x.tryWord(text("owner")), 0);
            y.tryWord(text("other"));
            due("the other object's key", keyOf(y, 1, 0), key);
            ended(x);
            ended(y);
        }
    }

    private static void alterShuts() {
        says("becomes another one; nothing is open any more.");
        for (int revision : ALL) {
            for (int which = 0; which < (revision == 5 ? 5 : 2); which++) {
                Pair x = opened(revision);
                x.applyAll(1, false, text("ab"));
                int b = Integer.parseInt(x.entry(which, 0));
                due("what is looked at stays open", x.told(0), 2);
                due("to what it was", x.alter(which, 0, b), 0);
                due("nothing is open", x.key(1, 0), STATE);
                due("nothing is collected", x.told(0), 0);
                due("opened again", x.tryWord(text("user")), 1);
                ended(x);
            }
        }
    }

    private static void noSuchByteToAlter() {
        says("nothing is open any more. IndexOutOfBoundsException.");
        int[] sizes = {48, 48, 32, 32, 16};
        for (int revision : ALL) {
            Pair x = opened(revision);
            x.applyAll(1, false, text("ab"));
            int entries = revision == 5 ? 5 : 2;
            for (int which = 0; which < entries; which++) {
                int size = revision == 5 ? sizes[which] : 32;
                for (int i : new int[] {-1, -2, size, FAR[0], FAR[1]}) {
                    due("byte " + i, x.alter(which, i, 1), INDEX);
                }
            }
            for (int which : new int[] {-1, entries, FAR[0], FAR[1]}) {
                due("entry " + which, x.alter(which, 0, 1), INDEX);
            }
            due("what is open stays", x.apply(1, false, 1), 3);
            ended(x);
        }
    }

    private static void nothingToAlterBeforeMake() {
        says("nothing is open any more. IndexOutOfBoundsException.");
        for (int revision : ALL) {
            Pair x = new Pair(revision);
            for (int which = -1; which <= 5; which++) {
                due("entry " + which, x.alter(which, 0, 1), INDEX);
                due("entry " + which, x.alter(which, -1, 1), INDEX);
            }
            due("nothing made", x.open(-1), STATE);
            ended(x);
        }
    }

    // Promise 9

    private static void bytesThatAreTried() {
        says("A byte (0 .. 255) behind the word that is tried: how many it has");
        for (int revision : ALL) {
            Pair x = new Pair(revision);
            x.tapes(17);
            x.words(false, Model.bytes(0, 255, 128, 0));
            due("the lowest, before anything is made", x.open(0), 1);
            due("the highest", x.open(255), 2);
            x.make(1);
            due("behind make()", x.open(128), 3);
            due("the lowest", x.open(0), 4);
            due("it opens", x.open(-1), 1);
            ended(x);
        }
    }

    private static void triedAndGone() {
        says("-1: it is tried, and gone");
        for (int revision : ALL) {
            Pair x = made(revision);
            due("opened", x.tryWord(text("user")), 1);
            due("it is gone", x.open('o'), 1);
            due("not opened", x.open(-1), 0);
            due("it is gone", x.open('o'), 1);
            due("one word behind another", x.tryWord(text("wner")), 2);
            due("without bytes", x.open(-1), 0);
            ended(x);
        }
    }

    private static void notOpened() {
        says("1, 2, or 0 (then nothing is open any more).");
        for (int revision : ALL) {
            Pair x = opened(revision);
            due("open", x.key(1, 0), keyBytes(revision));
            x.applyAll(1, false, text("ab"));
            x.open('n');
            due("a byte shuts nothing", x.told(0), 2);
            due("not opened", x.open(-1), 0);
            due("nothing is open", x.key(1, 0), STATE);
            due("nothing is open", x.apply(1, false, 1), STATE);
            due("nothing is collected", x.told(0), 0);
            due("the out stays", x.told(2), keyBytes(revision));
            due("the owner's", x.tryWord(text("owner")), 2);
            due("open", x.key(1, 0), keyBytes(revision));
            ended(x);
        }
    }

    private static void wrongByteToTry() {
        says("IllegalArgumentException for another c");
        for (int revision : ALL) {
            Pair x = new Pair(revision);
            for (int c : new int[] {-2, 256, FAR[0], FAR[1]}) {
                due("nothing made: " + c, x.open(c), ARGUMENT);
            }
            x.tapes(17);
            x.make(1);
            x.open(255);
            for (int c : new int[] {-2, 256, FAR[0], FAR[1]}) {
                due("one byte: " + c, x.open(c), ARGUMENT);
            }
            due("the word stays", x.open(1), 2);
            ended(x);
        }
    }

    private static void triedBeforeMake() {
        says("IllegalStateException when nothing was made (c = -1)");
        for (int revision : ALL) {
            Pair x = new Pair(revision);
            due("nothing made", x.open(-1), STATE);
            for (int n = 1; n <= 127; n++) {
                due("a byte", x.open(n), n);
            }
            due("nothing made, 127 bytes", x.open(-1), STATE);
            due("the word stays", x.open(1), UNSUPPORTED);
            ended(x);
        }
    }

    private static void fullTriedWord() {
        says("UnsupportedOperationException when there are 127.");
        for (int revision : ALL) {
            byte[] word = counted(100, 127);
            Pair x = new Pair(revision);
            x.tapes(17);
            x.words(false, word);
            x.make(1);
            for (int n = 1; n <= 127; n++) {
                due("how many", x.open(word[n - 1] & 255), n);
            }
            due("a 128th", x.open(0), UNSUPPORTED);
            due("first the argument", x.open(256), ARGUMENT);
            due("first the argument", x.open(-2), ARGUMENT);
            due("127 bytes are tried", x.open(-1), 1);
            due("and gone", x.open(0), 1);
            ended(x);
        }
    }

    // Promise 10

    private static void keyIsTheOut() {
        says("becomes the out: how many bytes.");
        for (int revision : ALL) {
            Pair x = opened(revision);
            x.digest(1);
            due("how many", x.key(1, 2), keyBytes(revision));
            due("the out", x.told(2), keyBytes(revision));
            due("behind it", x.out(keyBytes(revision)), ARRAY_INDEX);
            x.seeOut();
            ended(x);
        }
    }

    private static void lowestBitsOfAKey() {
        says("THE OBJECT'S KEY of a number and a generation (lowest 24 and 16 bits)");
        for (int revision : ALL) {
            Pair x = quick(revision, 0);
            String zero = keyOf(x, 0, 0);
            due("2 to the 24th as 0", keyOf(x, 1 << 24, 0), zero);
            due("2 to the 16th as 0", keyOf(x, 0, 1 << 16), zero);
            due("the lowest number as 0", keyOf(x, Integer.MIN_VALUE, Integer.MIN_VALUE), zero);
            due("the highest as all bits", keyOf(x, Integer.MAX_VALUE, Integer.MAX_VALUE), keyOf(x, 0xffffff, 0xffff));
            due("the 24th bit", keyOf(x, 1 << 23, 0).equals(zero), revision == 5);
            due("the 16th bit", keyOf(x, 0, 1 << 15).equals(zero), revision == 5);
            ended(x);
        }
    }

    private static void keyOfNothingOpen() {
        says("IllegalStateException when nothing is open.");
        for (int revision : ALL) {
            Pair x = new Pair(revision);
            due("nothing made", x.key(0, 0), STATE);
            x.tapes(34);
            x.make(1);
            due("not opened", x.key(0, 0), STATE);
            x.open(-1);
            due("opened", x.key(0, 0), keyBytes(revision));
            x.tryWord(text("no"));
            due("not opened any more", x.key(0, 0), STATE);
            x.open(-1);
            x.alter(0, 0, 0);
            due("altered", x.key(0, 0), STATE);
            x.make(1);
            x.open(-1);
            x.make(1);
            due("made again", x.key(0, 0), revision == 5 ? 32 : STATE);
            due("the out stays", x.told(2), keyBytes(revision));
            ended(x);
        }
    }

    // Promise 11

    private static void whatTheFilterWas() {
        says("A filter: what it was");
        int[][] turns = {{0, 0, 1, 1, 0}, {0, 0, 1, 1, 0}, {0, 0, 1, 1, 2, 2, 0, 2, 1, 0}, {0, 0, 2, 2, 0}};
        for (int revision : ALL) {
            Pair x = new Pair(revision);
            int was = revision < 4 ? 1 : 2;
            for (int kind : turns[revision - 2]) {
                due("what it was", x.filter(kind), was);
                was = kind;
            }
            ended(x);
        }
    }

    private static void endGoesByTheFilterOfThen() {
        says("(end() goes by the one that there is then)");
        for (int revision : ALL) {
            Pair x = opened(revision);
            x.applyAll(1, false, text("abc"));
            x.filter(0);
            due("collected under another one", x.end(), 3);
            dueOut(x, 0, text("abc"));
            x.applyAll(1, false, text("abc"));
            x.filter(revision < 4 ? 1 : 2);
            due("collected under 0", x.end(), revision < 4 ? 3 : 32);
            x.seeOut();
            due("it is another one", x.filter(0), revision < 4 ? 1 : 2);
            ended(x);
        }
    }

    private static void noSuchFilter() {
        says("IllegalArgumentException when it is not 0 .. 2, or 2 for revisions 2 and 3, or 1 for 5.");
        for (int revision : ALL) {
            Pair x = new Pair(revision);
            for (int kind : new int[] {-1, 3, FAR[0], FAR[1]}) {
                due("not 0 .. 2: " + kind, x.filter(kind), ARGUMENT);
            }
            int first = revision < 4 ? 1 : 2;
            due("filter 2", x.filter(2), revision < 4 ? ARGUMENT : 2);
            due("filter 1", x.filter(1), revision == 5 ? ARGUMENT : first);
            due("what it is", x.filter(0), revision == 5 ? 2 : 1);
            ended(x);
        }
    }

    // Promise 12

    private static void generation0() {
        says("A byte behind those of an object (generation 0) that are to be enciphered, or (back) "
            + "deciphered: how many.");
        for (int revision : EARLY) {
            Pair x = quick(revision, 0);
            x.filter(1);
            x.key(-2, 0);
            byte[] key = x.model().outBytes.clone();
            due("how many", x.apply(-2, false, -128), 1);
            due("how many", x.apply(-2, false, 127), 2);
            due("how many", x.end(), 2);
            dueOut(x, 0, Model.rc4(key, 0, Model.bytes(-128, 127)));
            due("how many, from the beginning", x.apply(-2, true, 0), 1);
            ended(x);
        }
    }

    private static void applyToNothingOpen() {
        says("IllegalStateException when nothing is open");
        for (int revision : ALL) {
            Pair x = new Pair(revision);
            due("nothing made", x.apply(0, false, 0), STATE);
            x.tapes(17);
            x.make(1);
            due("not opened", x.apply(0, false, 0), STATE);
            due("not opened", x.apply(0, true, 0), STATE);
            x.open(-1);
            due("opened", x.apply(0, true, 0), 1);
            x.tryWord(text("no"));
            due("not opened any more", x.apply(0, true, 0), STATE);
            ended(x);
        }
    }

    private static void applyToAnotherObject() {
        says("or there are bytes of another object (by all of its number)");
        for (int revision : ALL) {
            Pair x = quick(revision, 0);
            x.filter(0);
            due("the first", x.apply(5, false, 1), 1);
            for (int object : new int[] {6, 4, -5, 5 | 1 << 24, 5 | 1 << 31, 0, FAR[0], FAR[1]}) {
                due("object " + object, x.apply(object, false, 1), STATE);
            }
            due("the same", x.apply(5, false, 2), 2);
            x.end();
            due("none are there any more", x.apply(5 | 1 << 24, false, 1), 1);
            due("object 5", x.apply(5, false, 1), STATE);
            ended(x);
        }
    }

    private static void applyTheOtherWay() {
        says("or for the other way");
        for (int revision : ALL) {
            for (boolean back : new boolean[] {false, true}) {
                Pair x = quick(revision, 0);
                x.filter(0);
                due("the first", x.apply(5, back, 1), 1);
                due("the other way", x.apply(5, !back, 1), STATE);
                due("the same way", x.apply(5, back, 2), 2);
                x.end();
                due("none are there any more", x.apply(5, !back, 1), 1);
                ended(x);
            }
        }
    }

    private static void fullCollected() {
        says("UnsupportedOperationException when there are 400.");
        for (int revision : ALL) {
            for (boolean back : new boolean[] {false, true}) {
                Pair x = quick(revision, 0);
                for (int n = 1; n <= 400; n++) {
                    due("how many", x.apply(9, back, n), n);
                }
                due("a 401st", x.apply(9, back, 1), UNSUPPORTED);
                due("and again", x.apply(9, back, 1), UNSUPPORTED);
                due("400 are there", x.told(0), 400);
                x.filter(0);
                due("400 are there", x.end(), 400);
                due("none are there", x.apply(9, back, 1), 1);
                ended(x);
            }
        }
    }

    private static void firstNamedOfApply() {
        says("where several exceptions that a call names fit, it is the one that it names first.");
        for (int revision : ALL) {
            Pair x = quick(revision, 0);
            x.applyAll(9, false, same(1, 400));
            due("another object, and 400", x.apply(8, false, 1), STATE);
            due("the other way, and 400", x.apply(9, true, 1), STATE);
            due("both, and 400", x.apply(8, true, 1), STATE);
            due("400", x.apply(9, false, 1), UNSUPPORTED);
            ended(x);
        }
    }

    // Promise 13

    private static void endOfNone() {
        says("and the out stays: -1 there were none (nothing else)");
        for (int revision : ALL) {
            Pair x = new Pair(revision);
            due("nothing open", x.end(), -1);
            x.tapes(21);
            x.make(1);
            x.open(-1);
            x.key(1, 0);
            for (int kind = 0; kind <= 2; kind++) {
                x.filter(kind);
                due("none by filter " + kind, x.end(), -1);
            }
            due("the out stays", x.told(2), keyBytes(revision));
            due("the tape stays", x.told(1), revision == 5 ? 16 : 84);
            due("what is open stays", x.apply(1, true, 1), 1);
            x.seeAll();
            ended(x);
        }
    }

    private static void endWithoutAVectorOfTheTape() {
        says("-2 the vector is not all there (of the tape: it stays; of the bytes)");
        for (int revision : LATE) {
            for (int tapes = 0; tapes <= 5; tapes++) {
                Pair x = quick(revision, tapes);
                x.key(1, 0);
                x.applyAll(1, false, text("ab"));
                due(4 * tapes + " bytes of tape", x.end(), tapes < 4 ? -2 : 32);
                due("it stays where it is too short", x.told(1), tapes < 4 ? 4 * tapes : 4 * tapes - 16);
                due("the bytes are gone", x.told(0), 0);
                due("the out", x.told(2), tapes < 4 ? keyBytes(revision) : 32);
                x.seeOut();
                due("none", x.end(), -1);
                ended(x);
            }
        }
    }

    private static void endWithoutAVectorOfTheBytes() {
        says("-2 the vector is not all there (of the tape: it stays; of the bytes)");
        for (int revision : LATE) {
            for (int length : new int[] {1, 14, 15, 16}) {
                Pair x = quick(revision, 4);
                x.key(1, 0);
                x.applyAll(1, true, counted(1, length));
                due(length + " bytes", x.end(), length < 16 ? -2 : -3);
                due("the tape stays", x.told(1), 16);
                due("the bytes are gone", x.told(0), 0);
                due("the out stays", x.told(2), keyBytes(revision));
                x.seeOut();
                ended(x);
            }
        }
    }

    private static void endWithoutWholeBlocks() {
        says("-3 blocks that are not all there, or none");
        for (int revision : LATE) {
            for (int length : new int[] {16, 17, 24, 31, 32, 33, 47, 48, 399, 400}) {
                Pair x = quick(revision, 0);
                x.key(1, 0);
                x.applyAll(1, true, same(5, length));
                boolean whole = length % 16 == 0 && length > 16;
                due(length + " bytes", x.end(), whole ? -4 : -3);
                due("the bytes are gone", x.told(0), 0);
                due("the out stays", x.told(2), keyBytes(revision));
                x.seeOut();
                ended(x);
            }
        }
    }

    private static void endWithAWrongFill() {
        says("-4 the last one is not filled up right.");
        int[][] ends = {{0}, {17}, {18}, {128}, {255}, {1, 2}, {3, 2, 3}, {2, 3, 3}, {0, 0}};
        for (int revision : LATE) {
            for (int[] end : ends) {
                Pair x = quick(revision, 0);
                byte[] filled = Model.join(same(9, 16 - end.length), Model.bytes(end));
                due("the last bytes " + Arrays.toString(end), endBack(x, filled), -4);
                due("the bytes are gone", x.told(0), 0);
                due("the out stays", x.told(2), keyBytes(revision));
                x.seeOut();
                ended(x);
            }
            Pair x = quick(revision, 0);
            due("15 of 16", endBack(x, Model.join(Model.bytes(15), same(16, 15))), -4);
            due("14 of 15", endBack(x, Model.join(Model.bytes(1, 14), same(15, 14))), -4);
            due("17 in two blocks", endBack(x, same(17, 32)), -4);
            ended(x);
        }
    }

    private static void endWithAWholeFill() {
        says("the last one filled up by so many bytes of their number (1 .. 16).");
        for (int revision : LATE) {
            for (int fill = 1; fill <= 16; fill++) {
                Pair x = quick(revision, 0);
                byte[] text = counted(100, 16 - fill);
                due("one block with " + fill, endBack(x, Model.join(text, same(fill, fill))), 16 - fill);
                dueOut(x, 0, text);
                due("behind it", x.out(16 - fill), ARRAY_INDEX);
                text = counted(100, 32 - fill);
                due("two blocks with " + fill, endBack(x, Model.join(text, same(fill, fill))), 32 - fill);
                dueOut(x, 0, text);
                ended(x);
            }
        }
    }

    /** Deciphers what is, as it stands, the plain text with its fill. */
    private static String endBack(Pair x, byte[] filled) {
        x.key(1, 0);
        byte[] vector = counted(50, 16);
        byte[] shut = Model.aes(Cipher.ENCRYPT_MODE, x.model().outBytes, vector, filled);
        x.applyAll(1, true, Model.join(vector, shut));
        return x.end();
    }

    private static void endOfAllThatFits() {
        says("The bytes are gone, and, enciphered or deciphered, are the out: how many");
        for (int revision : ALL) {
            for (int kind = 0; kind <= 2; kind++) {
                Pair x = quick(revision, 4);
                boolean fits = !x.filter(kind).equals(ARGUMENT);
                x.applyAll(1, false, counted(1, 400));
                boolean blocks = kind == 2 && fits || revision == 5 && kind == 1;
                due("how many", x.end(), blocks ? 432 : 400);
                due("the out", x.told(2), blocks ? 432 : 400);
                due("the last", x.out(blocks ? 431 : 399).equals(ARRAY_INDEX), false);
                due("behind it", x.out(blocks ? 432 : 400), ARRAY_INDEX);
                due("the bytes are gone", x.told(0), 0);
                due("none", x.end(), -1);
                x.seeOut();
                ended(x);
            }
        }
        for (int revision : LATE) {
            Pair x = quick(revision, 0);
            due("400 bytes back", endBack(x, Model.join(counted(1, 383), Model.bytes(1))), 383);
            x.seeOut();
            ended(x);
        }
    }

    // Promise 14

    private static void outOfRange() {
        says("A byte of the out. ArrayIndexOutOfBoundsException.");
        for (int revision : ALL) {
            Pair x = quick(revision, 0);
            for (int i : new int[] {0, 1, -1, FAR[0], FAR[1]}) {
                due("none yet: " + i, x.out(i), ARRAY_INDEX);
            }
            x.digest(1);
            due("the first of 32", x.out(0), (byte) 0xe3);
            due("the last of 32", x.out(31), 0x55);
            for (int i : new int[] {32, 33, -1, -32, FAR[0], FAR[1]}) {
                due("byte " + i, x.out(i), ARRAY_INDEX);
            }
            x.digest(0);
            due("the last of 16", x.out(15), 0x7e);
            for (int i : new int[] {16, 31, -1}) {
                due("byte " + i + " of a shorter out", x.out(i), ARRAY_INDEX);
            }
            ended(x);
        }
    }

    private static void bytesOfTheOut() {
        says("A byte of the out.");
        Pair x = quick(3, 0);
        x.filter(0);
        byte[] bytes = Model.bytes(-128, -1, 0, 1, 127);
        x.applyAll(1, false, bytes);
        x.end();
        dueOut(x, 0, bytes);
        due("it stays", x.out(0), -128);
        x.make(1);
        due("it stays where nothing is open", x.out(0), -128);
        ended(x);
    }

    // Promise 15

    private static void digestsStay() {
        says("SMALL (kind 0), or GREAT (1), of the bytes that are collected for an object (they stay) "
            + "becomes the out: how many.");
        for (int revision : ALL) {
            Pair x = quick(revision, 0);
            x.applyAll(7, true, text("abc"));
            due("SMALL", x.digest(0), 16);
            due("the out", x.told(2), 16);
            x.seeOut();
            due("GREAT", x.digest(1), 32);
            due("the out", x.told(2), 32);
            x.seeOut();
            due("they stay", x.told(0), 3);
            due("for the object", x.apply(8, true, 1), STATE);
            x.filter(0);
            due("as they were", x.end(), 3);
            dueOut(x, 0, text("abc"));
            ended(x);
        }
    }

    private static void digestOfNone() {
        says("of the bytes that are collected for an object");
        for (int revision : ALL) {
            Pair x = new Pair(revision);
            due("SMALL of none, nothing made", x.digest(0), 16);
            dueOut(x, 0, hex("d41d8cd98f00b204e9800998ecf8427e"));
            due("GREAT of none", x.digest(1), 32);
            dueOut(x, 0, hex("e3b0c44298fc1c149afbf4c8996fb92427ae41e4649b934ca495991b7852b855"));
            ended(x);
        }
    }

    private static void noSuchDigest() {
        says("becomes the out: how many. IllegalArgumentException.");
        for (int revision : ALL) {
            Pair x = quick(revision, 0);
            x.key(1, 0);
            x.apply(1, false, 1);
            for (int kind : new int[] {-1, 2, 3, FAR[0], FAR[1]}) {
                due("kind " + kind, x.digest(kind), ARGUMENT);
            }
            due("the out stays", x.told(2), keyBytes(revision));
            due("the bytes stay", x.told(0), 1);
            ended(x);
        }
    }

    // Promise 16

    private static void fewerThan16Bytes() {
        says("Whether the revision's key has fewer than 16 bytes");
        for (int revision : ALL) {
            Pair x = new Pair(revision);
            due("by the revision", x.weak(), revision == 2 ? 1 : 0);
            x.tapes(17);
            x.make(1);
            x.open(-1);
            due("when open", x.weak(), revision == 2 ? 1 : 0);
            ended(x);
        }
    }

    private static void orFilter0() {
        says("or the filter is 0.");
        for (int revision : ALL) {
            Pair x = new Pair(revision);
            for (int kind = 0; kind <= 2; kind++) {
                x.filter(0);
                due("filter 0", x.weak(), 1);
                boolean fits = x.filter(kind).equals("0");
                due("filter " + kind, x.weak(), revision == 2 || kind == 0 || !fits ? 1 : 0);
            }
            ended(x);
        }
    }

    // Promise 17

    private static void toldNumbers() {
        says("How many: 0 bytes collected, 1 bytes of the tape that are left, 2 of the out");
        for (int revision : ALL) {
            Pair x = new Pair(revision);
            for (int what = 0; what <= 3; what++) {
                due("nothing yet: " + what, x.told(what), 0);
            }
            x.tapes(100);
            due("the tape", x.told(1), 400);
            x.make(5);
            due("the tape that is left", x.told(1), revision == 5 ? 332 : 400);
            x.open(-1);
            x.filter(0);
            x.applyAll(1, false, same(1, 300));
            due("collected", x.told(0), 300);
            x.end();
            due("none collected", x.told(0), 0);
            due("the out", x.told(2), 300);
            ended(x);
        }
    }

    private static void toldPermissions() {
        says("3 the permissions as made");
        for (int revision : ALL) {
            for (int permissions : new int[] {0, -1, 1, 0x01020384, FAR[0], FAR[1]}) {
                Pair x = new Pair(revision);
                x.tapes(34);
                x.make(permissions);
                due("as made", x.told(3), permissions);
                x.open(-1);
                due("when open", x.told(3), permissions);
                x.make(~permissions);
                due("as made again", x.told(3), ~permissions);
                ended(x);
            }
        }
    }

    private static void toldPermissionsByEntry4() {
        says("(of 5, when open: as entry 4 tells them by the key).");
        Pair x = new Pair(5);
        x.tapes(34);
        x.make(77);
        byte[] key = Model.part(x.model().tape, 0, 32);
        byte[] told = Model.join(Model.bytes(0x84, 3, 2, 0xff), same(0, 12));
        byte[] other = Model.aes(Cipher.ENCRYPT_MODE, key, new byte[16], told);
        for (int i = 0; i < 16; i++) {
            x.alter(4, i, other[i]);
        }
        due("when not open, as made", x.told(3), 77);
        x.open(-1);
        due("when open, as entry 4 tells them", x.told(3), 0xff020384);
        x.tryWord(text("no"));
        due("when not open any more", x.told(3), 77);
        x.alter(3, 0, ~Integer.parseInt(x.entry(3, 0)));
        due("opened", x.open(-1), 1);
        due("by another key", x.told(3).equals("77"), false);
        ended(x);
    }

    private static void nothingToTell() {
        says("as entry 4 tells them by the key). IndexOutOfBoundsException.");
        for (int revision : ALL) {
            Pair x = quick(revision, 0);
            for (int what : new int[] {-1, 4, FAR[0], FAR[1]}) {
                due("number " + what, x.told(what), INDEX);
            }
            ended(x);
        }
    }
}
