/**
 * What the boundary tests share. A sentence of the document is quoted, and played on a new object on
 * each side of the boundary that it names.
 */
abstract class Boundaries {
    static final int BAD = -1, FULL = -2, OWN = -3, ZERO = -4, NONE = -5, KIND = -6, INDEX = -7, SIZE = -8, STORE = -9;
    static final int TONE = 0, GLASS = 1, DRUM = 2, BELL = 3, READER = 4;
    static final int SHORTS = 0, INTS = 1, FLOATS = 2, DOUBLES = 3;
    static final int PLUS = 0, TIMES = 1, LESSER = 2, GREATER = 3, SAME = 4, UNLESS = 5;
    static final int MIN = Integer.MIN_VALUE, MAX = Integer.MAX_VALUE;
    /** Of ten blocks, the two that are just outside and the two farthest off. */
    static final int[] NO_BLOCKS = {-1, 10, MIN, MAX};
    static final int[] NO_LANES = {-1, 4, MIN, MAX};

    /** The object of the sentence that is played. */
    static CallWays2 x;

    private static String quoted = "";
    private static int sentences = 0;
    private static int wrong = 0;

    static void sentence(String where, String words, Runnable calls) {
        quoted = where + ", \"" + words + "\"";
        sentences++;
        x = new CallWays2();
        try {
            calls.run();
        } catch (RuntimeException | StackOverflowError e) {
            wrong++;
            System.out.println(quoted + ": a call threw " + e);
        }
    }

    static void end() {
        System.out.println(wrong == 0 ? sentences + " sentences hold" : wrong + " answers are not as due");
        if (wrong != 0) System.exit(1);
    }

    static void due(long got, long want) {
        if (got == want) return;
        wrong++;
        System.out.println(quoted + ", " + lineOfTest() + ": answered " + got + ", due is " + want);
    }

    static void due(boolean got, boolean want) {
        due(got ? 1L : 0L, want ? 1L : 0L);
    }

    static void dueState(int want) {
        due(x.state(), want);
    }

    static void dueBits(long got, double want) {
        due(got, Double.doubleToLongBits(want));
    }

    static void dueBits(long got, float want) {
        due(got, (long) Float.floatToIntBits(want));
    }

    private static String lineOfTest() {
        for (StackTraceElement at : new Throwable().getStackTrace()) {
            if (!at.getClassName().equals("Boundaries")) return at.getFileName() + " line " + at.getLineNumber();
        }
        return "";
    }

    static void instruments(int... sorts) {
        for (int sort : sorts) x.instrument(sort);
    }

    static void row(int block, int lane, int... samples) {
        x.block(block, lane, samples.length);
        for (int i = 0; i < samples.length; i++) x.put(block, i, samples[i]);
    }

    /** Of SHORTS or INTS. */
    static void dueRow(int block, int... samples) {
        due(x.of(block, 1), samples.length);
        for (int i = 0; i < samples.length; i++) due(x.at(block, i), samples[i]);
    }

    static void dueDoubles(int block, double... samples) {
        due(x.of(block, 1), samples.length);
        for (int i = 0; i < samples.length; i++) dueBits(x.at(block, i), samples[i]);
    }

    /** What an instrument would give next, and that it is nothing that fails. */
    static void dueNext(int instrument, double want) {
        dueBits(x.next(instrument), want);
        dueState(0);
    }

    static void dueFailure(int instrument, int want) {
        due(x.next(instrument), 0);
        dueState(want);
    }

    /** Plays by members into block 9, as doubles, samples that the test does not look at. */
    static void pass(int instrument, int n) {
        x.block(9, DOUBLES, 40);
        for (int left = n; left > 0; left -= 40) x.play(instrument, 0, 0, 9, 0, Math.min(left, 40));
    }
}
