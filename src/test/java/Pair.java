import java.util.ArrayList;
import java.util.List;

/** The class and the model side by side: every call goes to both, and both must answer alike. */
final class Pair {
    /** What a call answers, or "throws" and the exception's name. */
    interface Call {
        long on();
    }

    private final CryptRows real;
    private final Model model;
    private final List<String> calls = new ArrayList<>();
    int wrong;

    Pair(int revision) {
        real = new CryptRows(revision);
        model = new Model(revision);
        calls.add("new CryptRows(" + revision + ")");
    }

    Model model() {
        return model;
    }

    int count() {
        return calls.size() - 1;
    }

    String word(int c, boolean owner) {
        return both("word(" + c + ", " + owner + ")", () -> real.word(c, owner), () -> model.word(c, owner));
    }

    String id(int b) {
        return both("id(" + b + ")", () -> {
            real.id((byte) b);
            return 0;
        }, () -> model.id((byte) b));
    }

    String tape(int v) {
        return both("tape(" + v + ")", () -> real.tape(v), () -> model.tape(v));
    }

    String metadata(boolean plain) {
        return both("metadata(" + plain + ")", () -> real.metadata(plain), () -> model.metadata(plain));
    }

    String make(int permissions) {
        return both("make(" + permissions + ")", () -> real.make(permissions), () -> model.make(permissions));
    }

    String entry(int which, int i) {
        return both("entry(" + which + ", " + i + ")", () -> real.entry(which, i), () -> model.entry(which, i));
    }

    String alter(int which, int i, int b) {
        return both("alter(" + which + ", " + i + ", " + b + ")", () -> {
            real.alter(which, i, (byte) b);
            return 0;
        }, () -> model.alter(which, i, (byte) b));
    }

    String open(int c) {
        return both("open(" + c + ")", () -> real.open(c), () -> model.open(c));
    }

    String key(int object, int generation) {
        return both("key(" + object + ", " + generation + ")",
            () -> real.key(object, generation), () -> model.key(object, generation));
    }

    String filter(int kind) {
        return both("filter(" + kind + ")", () -> real.filter(kind), () -> model.filter(kind));
    }

    String apply(int object, boolean back, int b) {
        return both("apply(" + object + ", " + back + ", " + b + ")",
            () -> real.apply(object, back, (byte) b), () -> model.apply(object, back, (byte) b));
    }

    String end() {
        return both("end()", real::end, model::end);
    }

    String out(int i) {
        return both("out(" + i + ")", () -> real.out(i), () -> model.out(i));
    }

    String digest(int kind) {
        return both("digest(" + kind + ")", () -> real.digest(kind), () -> model.digest(kind));
    }

    String weak() {
        return both("weak()", () -> real.weak() ? 1 : 0, model::weak);
    }

    String told(int what) {
        return both("told(" + what + ")", () -> real.told(what), () -> model.told(what));
    }

    void words(boolean owner, byte[] bytes) {
        for (byte b : bytes) {
            word(b, owner);
        }
    }

    /** Tries a word: its bytes, then -1. */
    String tryWord(byte[] bytes) {
        for (byte b : bytes) {
            open(b & 255);
        }
        return open(-1);
    }

    void applyAll(int object, boolean back, byte[] bytes) {
        for (byte b : bytes) {
            apply(object, back, b);
        }
    }

    void tapes(int calls) {
        for (int k = 0; k < calls; k++) {
            tape(0x9e3779b9 * (model.tape.length + k + 1));
        }
    }

    /** Looks at all that can be seen, which changes nothing. */
    void seeAll() {
        List<String> before = new ArrayList<>(calls);
        for (int what = -1; what <= 4; what++) {
            told(what);
        }
        for (int i = -1; i <= model.outBytes.length; i++) {
            out(i);
        }
        for (int which = -1; which <= 5; which++) {
            for (int i = -2; i <= 48; i++) {
                entry(which, i);
            }
        }
        weak();
        calls.clear();
        calls.addAll(before);
    }

    private String both(String name, Call onReal, Call onModel) {
        calls.add(name);
        String got = answer(onReal);
        String due = answer(onModel);
        if (!got.equals(due)) {
            wrong++;
            System.out.println(String.join("; ", calls) + " answered " + got + ", due is " + due);
        }
        return got;
    }

    private static String answer(Call call) {
        try {
            return Long.toString(call.on());
        } catch (RuntimeException e) {
            return "throws " + e.getClass().getSimpleName();
        }
    }
}
