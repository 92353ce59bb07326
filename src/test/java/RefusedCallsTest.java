import java.util.ArrayList;
import java.util.List;

/** Each refused call, between calls that show all that it could have changed. */
public final class RefusedCallsTest extends Sentences {
    private interface Scene {
        Pair set(int revision);
    }

    private interface Call {
        String on(Pair x);
    }

    private static final Scene BUSY = RefusedCallsTest::busy;

    public static void main(String[] args) {
        says("A call that throws changes nothing");
        fullRows();
        makeWithoutTape();
        noSuchByte();
        wordsThatAreTried();
        nothingOpen();
        filtersAndHashes();
        otherBytes();
        fullCollected();
        exit();
    }

    /** The same object twice: all that follows is alike, whether the call was refused or not made. */
    private static void refused(int revision, String what, Scene scene, String exception, Call call) {
        Pair without = scene.set(revision);
        Pair with = scene.set(revision);
        due(what + " is refused", call.on(with), exception);
        due(what + " is refused again", call.on(with), exception);
        due("what follows " + what, rest(with), rest(without));
        wrong += with.wrong + without.wrong;
    }

    /** Answers that between them go by all that an object holds. */
    private static List<String> rest(Pair x) {
        x.seeAll();
        List<String> all = new ArrayList<>();
        for (int what = 0; what <= 3; what++) {
            all.add(x.told(what));
        }
        all.add(x.weak());
        all.add(x.digest(1));
        x.seeOut();
        all.add(x.apply(9, true, 1));
        all.add(x.end());
        x.seeOut();
        all.add(x.open(1));
        all.add(x.key(1, 1));
        x.seeOut();
        all.add(x.open(-1));
        all.add(x.filter(0));
        all.add(x.metadata(false));
        all.add(x.make(1));
        x.seeAll();
        all.add(x.id(1));
        all.add(x.word(1, false));
        all.add(x.word(1, true));
        all.add(x.tape(1));
        all.add(x.make(2));
        x.seeAll();
        return all;
    }

    /** Open, with some of everything. */
    private static Pair busy(int revision) {
        Pair x = new Pair(revision);
        x.words(false, text("user"));
        x.words(true, text("owner"));
        x.id(7);
        x.tapes(55);
        x.metadata(true);
        x.make(-1340);
        x.tryWord(text("owner"));
        x.key(3, 3);
        x.applyAll(9, true, text("abc"));
        x.open('u');
        return x;
    }

    private static void fullRows() {
        for (int revision : ALL) {
            refused(revision, "a 128th byte of the user's", RefusedCallsTest::fullUser, UNSUPPORTED, x -> x.word(5, false));
            refused(revision, "a 128th byte of the owner's", RefusedCallsTest::fullOwner, UNSUPPORTED, x -> x.word(5, true));
            refused(revision, "a 33rd byte of the id", RefusedCallsTest::fullId, UNSUPPORTED, x -> x.id(5));
            refused(revision, "a 101st number of the tape", RefusedCallsTest::fullTape, UNSUPPORTED, x -> x.tape(5));
            refused(revision, "a 128th byte to try", RefusedCallsTest::fullTried, UNSUPPORTED, x -> x.open(5));
            refused(revision, "-2 to try, behind 127", RefusedCallsTest::fullTried, ARGUMENT, x -> x.open(-2));
        }
    }

    private static Pair fullUser(int revision) {
        Pair x = busy(revision);
        x.words(false, same(1, 123));
        return x;
    }

    private static Pair fullOwner(int revision) {
        Pair x = busy(revision);
        x.words(true, same(1, 122));
        return x;
    }

    private static Pair fullId(int revision) {
        Pair x = busy(revision);
        x.ids(31);
        return x;
    }

    private static Pair fullTape(int revision) {
        Pair x = busy(revision);
        x.tapes(45);
        return x;
    }

    private static Pair fullTried(int revision) {
        Pair x = busy(revision);
        for (int n = 2; n <= 127; n++) {
            x.open(n);
        }
        return x;
    }

    private static void makeWithoutTape() {
        for (int tapes : new int[] {0, 1, 16}) {
            refused(5, "make() with " + 4 * tapes + " bytes", revision -> shortTape(tapes), STATE, x -> x.make(99));
        }
        refused(5, "make() with nothing made", revision -> nothingMade(revision, 16), STATE, x -> x.make(99));
    }

    private static Pair shortTape(int tapes) {
        Pair x = new Pair(5);
        x.words(true, text("o"));
        x.tapes(17 + tapes);
        x.make(-1340);
        x.tryWord(text("o"));
        x.key(3, 3);
        x.applyAll(9, true, text("abc"));
        x.open('u');
        return x;
    }

    private static Pair nothingMade(int revision, int tapes) {
        Pair x = new Pair(revision);
        x.tapes(tapes);
        x.words(false, text("u"));
        x.words(true, text("o"));
        x.open('u');
        return x;
    }

    private static void noSuchByte() {
        int[][] places = {{-1, 0}, {5, 0}, {0, -2}, {0, 48}, {1, 48}, {Integer.MAX_VALUE, 0}, {0, Integer.MIN_VALUE}};
        for (int revision : ALL) {
            for (int[] place : places) {
                String what = "of entry " + place[0] + " byte " + place[1];
                refused(revision, "a look " + what, BUSY, INDEX, x -> x.entry(place[0], place[1]));
                refused(revision, "another one " + what, BUSY, INDEX, x -> x.alter(place[0], place[1], 1));
            }
            refused(revision, "another byte -1", BUSY, INDEX, x -> x.alter(0, -1, 1));
            refused(revision, "another byte before make()", r -> nothingMade(r, 40), INDEX, x -> x.alter(0, 0, 1));
            refused(revision, "a byte of the out", BUSY, ARRAY_INDEX, x -> x.out(32));
            refused(revision, "byte -1 of the out", BUSY, ARRAY_INDEX, x -> x.out(-1));
            refused(revision, "a number to tell", BUSY, INDEX, x -> x.told(4));
            refused(revision, "number -1 to tell", BUSY, INDEX, x -> x.told(-1));
        }
    }

    private static void wordsThatAreTried() {
        for (int revision : ALL) {
            refused(revision, "256 to try", BUSY, ARGUMENT, x -> x.open(256));
            refused(revision, "-2 to try", BUSY, ARGUMENT, x -> x.open(-2));
            refused(revision, "256 to try before make()", r -> nothingMade(r, 40), ARGUMENT, x -> x.open(256));
            refused(revision, "a word before make()", r -> nothingMade(r, 40), STATE, x -> x.open(-1));
        }
    }

    private static void nothingOpen() {
        for (int revision : ALL) {
            refused(revision, "a key before make()", r -> nothingMade(r, 40), STATE, x -> x.key(1, 1));
            refused(revision, "a byte before make()", r -> nothingMade(r, 40), STATE, x -> x.apply(1, false, 1));
            refused(revision, "a key of nothing open", RefusedCallsTest::shut, STATE, x -> x.key(1, 1));
            refused(revision, "a byte of nothing open", RefusedCallsTest::shut, STATE, x -> x.apply(1, false, 1));
        }
    }

    private static Pair shut(int revision) {
        Pair x = busy(revision);
        x.open(-1);
        x.open('u');
        return x;
    }

    private static void filtersAndHashes() {
        for (int revision : ALL) {
            for (int kind : new int[] {-1, 3, Integer.MIN_VALUE, Integer.MAX_VALUE}) {
                refused(revision, "filter " + kind, BUSY, ARGUMENT, x -> x.filter(kind));
                refused(revision, "hash " + kind, BUSY, ARGUMENT, x -> x.digest(kind));
            }
            refused(revision, "hash 2", BUSY, ARGUMENT, x -> x.digest(2));
            if (revision != 4) {
                int kind = revision == 5 ? 1 : 2;
                refused(revision, "filter " + kind, BUSY, ARGUMENT, x -> x.filter(kind));
            }
        }
    }

    private static void otherBytes() {
        for (int revision : ALL) {
            refused(revision, "a byte of another object", BUSY, STATE, x -> x.apply(8, true, 1));
            refused(revision, "a byte of all another number", BUSY, STATE, x -> x.apply(9 | 1 << 24, true, 1));
            refused(revision, "a byte for the other way", BUSY, STATE, x -> x.apply(9, false, 1));
        }
    }

    private static void fullCollected() {
        for (int revision : ALL) {
            refused(revision, "a 401st byte", RefusedCallsTest::full, UNSUPPORTED, x -> x.apply(9, true, 1));
            refused(revision, "a 401st byte of another object", RefusedCallsTest::full, STATE, x -> x.apply(8, true, 1));
            refused(revision, "a 401st byte for the other way", RefusedCallsTest::full, STATE, x -> x.apply(9, false, 1));
        }
    }

    private static Pair full(int revision) {
        Pair x = quick(revision, 18);
        x.applyAll(9, true, counted(1, 400));
        return x;
    }
}
