import java.util.Arrays;

/** What the tests have in common: objects made ready for them, and how an answer is compared. */
class Scenes {
    static final String ARGUMENT = "throws IllegalArgumentException";
    static final String STATE = "throws IllegalStateException";
    static final String INDEX = "throws IndexOutOfBoundsException";
    static final String ARRAY_INDEX = "throws ArrayIndexOutOfBoundsException";
    static final String UNSUPPORTED = "throws UnsupportedOperationException";

    static final int[] ALL = {2, 3, 4, 5};
    static final int[] EARLY = {2, 3, 4};
    /** Those that know filter 2. */
    static final int[] LATE = {4, 5};

    static int wrong;

    static void compare(String of, String what, Object got, Object want) {
        if (!got.toString().equals(want.toString())) {
            wrong++;
            System.out.println(of + ": " + what + ": " + got + ", due is " + want);
        }
    }

    static byte[] text(String s) {
        byte[] bytes = new byte[s.length()];
        for (int i = 0; i < bytes.length; i++) {
            bytes[i] = (byte) s.charAt(i);
        }
        return bytes;
    }

    static byte[] same(int b, int count) {
        byte[] bytes = new byte[count];
        Arrays.fill(bytes, (byte) b);
        return bytes;
    }

    /** Bytes that all differ, as far as there are enough of them. */
    static byte[] counted(int first, int count) {
        byte[] bytes = new byte[count];
        for (int i = 0; i < count; i++) {
            bytes[i] = (byte) (first + i);
        }
        return bytes;
    }

    static byte[] hex(String digits) {
        byte[] bytes = new byte[digits.length() / 2];
        for (int i = 0; i < bytes.length; i++) {
            bytes[i] = (byte) Integer.parseInt(digits.substring(2 * i, 2 * i + 2), 16);
        }
        return bytes;
    }

    /** An object with the words "user" and "owner", an id and a full tape. */
    static Pair ready(int revision) {
        Pair x = new Pair(revision);
        x.words(false, text("user"));
        x.words(true, text("owner"));
        x.id(7);
        x.id(-7);
        x.tapes(100);
        return x;
    }

    static Pair made(int revision) {
        Pair x = ready(revision);
        x.make(-1340);
        return x;
    }

    static Pair opened(int revision) {
        Pair x = made(revision);
        compare("promise 9", "opened by the user's word", x.tryWord(text("user")), 1);
        return x;
    }

    /** An object without words, made with few calls, open, with some bytes of tape left. */
    static Pair quick(int revision, int tapes) {
        Pair x = new Pair(revision);
        x.tapes(revision == 5 ? 17 + tapes : tapes);
        x.make(-44);
        compare("promise 9", "opened by a word without bytes", x.open(-1), 1);
        return x;
    }

    static void ended(Pair x) {
        x.seeAll();
        wrong += x.wrong;
    }
}
