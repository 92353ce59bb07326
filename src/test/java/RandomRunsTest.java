import java.util.Random;

/** Runs of calls by chance (always the same ones) on the class and the model. */
public final class RandomRunsTest {
    private static final int RUNS = 1200;
    /** No single step makes more calls. */
    private static final int LONGEST_STEP = 130;
    private static final int STEPS_OF_ONE_CALL = 17;
    private static final int STEPS = 26;

    private final Random random;
    private final Pair pair;

    private RandomRunsTest(long seed) {
        random = new Random(seed);
        pair = new Pair((int) (seed % 4) + 2);
    }

    public static void main(String[] args) {
        int wrong = 0;
        for (long seed = 0; seed < RUNS && wrong == 0; seed++) {
            RandomRunsTest run = new RandomRunsTest(seed);
            run.go();
            wrong += run.pair.wrong;
        }
        System.exit(wrong == 0 ? 0 : 1);
    }

    /** Some runs take all the calls that an object has; the others leave some to look at it. */
    private void go() {
        int end = random.nextInt(3) == 0 ? Pair.CALLS : 150 + random.nextInt(300);
        if (random.nextInt(8) > 0) {
            prepare();
        }
        while (pair.count() < end && pair.wrong == 0) {
            step(random.nextInt(end - pair.count() > LONGEST_STEP ? STEPS : STEPS_OF_ONE_CALL));
            if (pair.count() < 200 && random.nextInt(40) == 0) {
                pair.seeAll();
            }
        }
        pair.seeAll();
    }

    private void prepare() {
        pair.words(false, someBytes(random.nextInt(6) == 0 ? 40 : random.nextInt(6)));
        pair.words(true, random.nextInt(6) == 0 ? Model.FILL : someBytes(random.nextInt(3) == 0 ? 0 : random.nextInt(6)));
        for (int k = random.nextInt(17); k > 0; k--) {
            pair.id(random.nextInt());
        }
        for (int k = random.nextInt(60); k > 0; k--) {
            pair.tape(random.nextInt());
        }
        pair.make(random.nextInt());
    }

    private void step(int kind) {
        switch (kind) {
            case 0 -> pair.word(random.nextInt(), random.nextBoolean());
            case 1 -> pair.id(random.nextInt());
            case 2, 3 -> pair.tape(random.nextInt());
            case 4 -> pair.metadata(random.nextBoolean());
            case 5 -> pair.make(random.nextInt());
            case 6 -> pair.entry(random.nextInt(8) - 1, random.nextInt(52) - 2);
            case 7 -> pair.open(random.nextInt(4) == 0 ? random.nextInt(260) - 2 : -1);
            case 8 -> pair.key(random.nextInt(), random.nextInt());
            case 9 -> pair.filter(random.nextInt(5) - 1);
            case 10 -> pair.apply(random.nextInt(3), random.nextBoolean(), random.nextInt());
            case 11, 12 -> pair.end();
            case 13 -> pair.out(random.nextInt(40) - 2);
            case 14 -> pair.digest(random.nextInt(4) - 1);
            case 15 -> pair.weak();
            case 16 -> pair.told(random.nextInt(6) - 1);
            case 17 -> alterSometimes();
            case 18, 19, 20, 21 -> pair.tryWord(random.nextBoolean() ? pair.model().user : pair.model().owner);
            case 22, 23 -> pair.applyAll(goOnWith(), pair.model().collectedBack, someBytes(random.nextInt(40)));
            default -> forthAndBack();
        }
    }

    private int goOnWith() {
        return pair.model().collected.length > 0 ? pair.model().collectedFor : random.nextInt();
    }

    private void alterSometimes() {
        int which = random.nextInt(7) - 1;
        int i = random.nextInt(52) - 2;
        pair.alter(which, i, random.nextInt());
        if (random.nextBoolean()) {
            pair.make(random.nextInt());
        }
    }

    /** What end() shuts goes back, sometimes spoilt or not whole. */
    private void forthAndBack() {
        pair.end();
        int object = random.nextInt();
        pair.applyAll(object, false, someBytes(random.nextInt(34)));
        pair.end();
        byte[] shut = pair.model().outBytes.clone();
        if (shut.length > 0 && random.nextInt(4) == 0) {
            shut[random.nextInt(shut.length)] ^= (byte) (1 << random.nextInt(8));
        }
        if (shut.length <= 64) {
            pair.applyAll(object, true, shut);
        }
        if (random.nextInt(4) == 0) {
            pair.apply(object, true, random.nextInt());
        }
        pair.end();
    }

    private byte[] someBytes(int count) {
        byte[] bytes = new byte[count];
        random.nextBytes(bytes);
        return bytes;
    }
}
