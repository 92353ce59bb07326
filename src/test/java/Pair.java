import java.util.ArrayList;
import java.util.List;

/** The class and the model side by side: every call goes to both, and both must answer alike. */
final class Pair {
    /** The document promises nothing about an object after so many calls. */
    static final int CALLS = 512;

    /** A call of the class, to be made once more on a twin. */
    private interface RealCall {
        long on(CryptRows x);
    }

    private interface ModelCall {
        long on(Model x);
    }

    private final int revision;
    private final CryptRows real;
    private final Model model;
    private final List<String> names = new ArrayList<>();
    private final List<RealCall> calls = new ArrayList<>();
    private CryptRows twin;
    private int twinCalls;
    int wrong;

    Pair(int asked) {
        revision = asked;
        real = new CryptRows(asked);
        model = new Model(asked);
    }

    Model model() {
        return model;
    }

    int count() {
        return calls.size();
    }

    String word(int c, boolean owner) {
        return both("word(" + c + ", " + owner + ")", x -> x.word(c, owner), x -> x.word(c, owner));
    }

    String id(int b) {
        return both("id(" + b + ")", x -> {
            x.id((byte) b);
            return 0;
        }, x -> x.id((byte) b));
    }

    String tape(int v) {
        return both("tape(" + v + ")", x -> x.tape(v), x -> x.tape(v));
    }

    String metadata(boolean plain) {
        return both("metadata(" + plain + ")", x -> x.metadata(plain), x -> x.metadata(plain));
    }

    String make(int permissions) {
        return both("make(" + permissions + ")", x -> x.make(permissions), x -> x.make(permissions));
    }

    String entry(int which, int i) {
        return both("entry(" + which + ", " + i + ")", x -> x.entry(which, i), x -> x.entry(which, i));
    }

    String alter(int which, int i, int b) {
        return both("alter(" + which + ", " + i + ", " + b + ")", x -> {
            x.alter(which, i, (byte) b);
            return 0;
        }, x -> x.alter(which, i, (byte) b));
    }

    String open(int c) {
        return both("open(" + c + ")", x -> x.open(c), x -> x.open(c));
    }

    String key(int object, int generation) {
        return both("key(" + object + ", " + generation + ")",
            x -> x.key(object, generation), x -> x.key(object, generation));
    }

    String filter(int kind) {
        return both("filter(" + kind + ")", x -> x.filter(kind), x -> x.filter(kind));
    }

    String apply(int object, boolean back, int b) {
        return both("apply(" + object + ", " + back + ", " + b + ")",
            x -> x.apply(object, back, (byte) b), x -> x.apply(object, back, (byte) b));
    }

    String end() {
        return both("end()", x -> x.end(), x -> x.end());
    }

    String out(int i) {
        return both("out(" + i + ")", x -> x.out(i), x -> x.out(i));
    }

    String digest(int kind) {
        return both("digest(" + kind + ")", x -> x.digest(kind), x -> x.digest(kind));
    }

    String weak() {
        return both("weak()", x -> x.weak() ? 1 : 0, x -> x.weak());
    }

    String told(int what) {
        return both("told(" + what + ")", x -> x.told(what), x -> x.told(what));
    }

    void words(boolean owner, byte[] bytes) {
        for (byte b : bytes) {
            word(b, owner);
        }
    }

    void ids(int count) {
        for (int k = 0; k < count; k++) {
            id(11 * k + 5);
        }
    }

    /** Tries a word: its bytes, then -1. */
    String tryWord(byte[] bytes) {
        for (byte b : bytes) {
            open(b & 255);
        }
        return open(-1);
    }

    void applyAll(int object, boolean back, byte[] bytes) {
        for (byte b : bytes) {
            apply(object, back, b);
        }
    }

    void tapes(int calls) {
        for (int k = 0; k < calls; k++) {
            tape(0x9e3779b9 * (model.tape.length + k + 1));
        }
    }

    /** Looks at all that can be seen, on twins: so it takes no call of the object away. */
    void seeAll() {
        twin = null;
        for (int what = -1; what <= 4; what++) {
            int asked = what;
            look("told(" + asked + ")", x -> x.told(asked), x -> x.told(asked));
        }
        look("weak()", x -> x.weak() ? 1 : 0, x -> x.weak());
        seeOut();
        for (int which = -1; which <= 5; which++) {
            seeEntry(which);
        }
    }

    void seeOut() {
        for (int i = -1; i <= model.outBytes.length; i++) {
            int asked = i;
            look("out(" + asked + ")", x -> x.out(asked), x -> x.out(asked));
        }
    }

    private void seeEntry(int which) {
        boolean made = model.entries != null && which >= 0 && which < model.entries.length;
        int end = made ? model.entries[which].length : 0;
        for (int i = -2; i <= end; i++) {
            int asked = i;
            look("entry(" + which + ", " + asked + ")", x -> x.entry(which, asked), x -> x.entry(which, asked));
        }
    }

    private String both(String name, RealCall onReal, ModelCall onModel) {
        if (count() == CALLS) {
            throw new AssertionError("a test may not use an object for more than " + CALLS + " calls");
        }
        names.add(name);
        calls.add(onReal);
        twin = null;
        return compared(answer(onReal, real), onModel, "");
    }

    /** Where the calls of a run are as many as an object may have, nothing is left to look with. */
    private void look(String name, RealCall onReal, ModelCall onModel) {
        if (count() == CALLS) {
            return;
        }
        if (twin == null || twinCalls == CALLS) {
            twin = madeAgain();
            twinCalls = count();
        }
        twinCalls++;
        compared(answer(onReal, twin), onModel, "; " + name);
    }

    private CryptRows madeAgain() {
        CryptRows again = new CryptRows(revision);
        for (RealCall call : calls) {
            answer(call, again);
        }
        return again;
    }

    private String compared(String got, ModelCall onModel, String last) {
        String due = answer(onModel, model);
        if (!got.equals(due)) {
            wrong++;
            System.out.println("new CryptRows(" + revision + "); " + String.join("; ", names) + last
                + " answered " + got + ", due is " + due);
        }
        return got;
    }

    private static String answer(RealCall call, CryptRows x) {
        try {
            return Long.toString(call.on(x));
        } catch (RuntimeException e) {
            return thrown(e);
        }
    }

    private static String answer(ModelCall call, Model x) {
        try {
            return Long.toString(call.on(x));
        } catch (RuntimeException e) {
            return thrown(e);
        }
    }

    private static String thrown(RuntimeException e) {
        return "throws " + e.getClass().getSimpleName();
    }
}
