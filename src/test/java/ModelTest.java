import java.util.Random;

/** Runs of 512 calls, the same ones each time, on CallWays2 and on PlainModel side by side. */
public final class ModelTest {
    private static final int RUNS = 12000, CALLS = 512, MOST_TOLD = 20;
    private static final int[] EDGES = {Integer.MIN_VALUE, Integer.MIN_VALUE + 1, -1001, -1000, -8, -1, 0, 1, 7, 8, 500, 999, 1000, 1001, 32768, 70000,
        16777217, Integer.MAX_VALUE - 1, Integer.MAX_VALUE};

    private final Random random;
    private final CallWays2 real = new CallWays2();
    private final PlainModel model = new PlainModel();
    private String call = "";
    private long got;
    private long due;

    private ModelTest(long seed) {
        random = new Random(seed);
    }

    public static void main(String[] args) {
        int wrong = 0;
        for (int run = 0; run < RUNS && wrong < MOST_TOLD; run++) {
            wrong += new ModelTest(run).play(run);
        }
        System.out.println(wrong == 0 ? RUNS + " runs are like the model's" : wrong + " runs are not like the model's");
        if (wrong != 0) System.exit(1);
    }

    private int play(int run) {
        // A run that begins with players and blocks at once gets deeper than one that finds them by chance.
        for (int i = 0; run % 2 == 0 && i < 5; i++) {
            real.instrument(i);
            model.instrument(i);
            real.block(i, i % 4, 8 * i + 8);
            model.block(i, i % 4, 8 * i + 8);
        }
        // Ten calls are behind us, and a state() follows each one to come.
        for (int i = 0; i < (CALLS - 10) / 2; i++) {
            step();
            if (got == due && real.state() != model.state()) {
                call += ", then state()";
                got = real.state();
                due = model.state();
            }
            if (got != due) {
                System.out.println("run " + run + ", call " + i + ": " + call + " answered " + got + ", due is " + due);
                return 1;
            }
        }
        return 0;
    }

    private int upTo(int below) {
        return random.nextInt(60) == 0 ? edge() : random.nextInt(below + 2) - 1;
    }

    private int edge() {
        return EDGES[random.nextInt(EDGES.length)];
    }

    private int value() {
        return random.nextInt(4) == 0 ? edge() : random.nextInt(12) - 4;
    }

    private void told(String name, long answer, long dueAnswer, Object... with) {
        StringBuilder text = new StringBuilder(name).append('(');
        for (int i = 0; i < with.length; i++) text.append(i == 0 ? "" : ", ").append(with[i]);
        call = text.append(')').toString();
        got = answer;
        due = dueAnswer;
    }

    private static long number(boolean b) {
        return b ? 1L : 0L;
    }

    private void step() {
        int which = random.nextInt(30);
        if (which < 9) stepOfInstrument(which);
        else if (which < 20) stepOfBlock(which);
        else stepOfPlay();
    }

    private void stepOfInstrument(int which) {
        int p = upTo(6);
        int v = value();
        boolean flag = random.nextBoolean();
        if (which == 0) {
            told("instrument", real.instrument(v), model.instrument(v), v);
        } else if (which < 3) {
            int pitch = random.nextInt(5) == 0 ? v : random.nextInt(128);
            told("note", real.note(p, pitch, flag), model.note(p, pitch, flag), p, pitch, flag);
        } else if (which < 6) {
            int k = upTo(4);
            told("knob", real.knob(p, k, v), model.knob(p, k, v), p, k, v);
        } else if (which == 6) {
            told("phase", real.phase(p, v), model.phase(p, v), p, v);
        } else {
            int b = upTo(10);
            told("table", real.table(p, b, flag), model.table(p, b, flag), p, b, flag);
        }
    }

    private void stepOfBlock(int which) {
        int b = upTo(10);
        int c = upTo(10);
        int i = upTo(12);
        int j = upTo(12);
        int v = value();
        boolean flag = random.nextBoolean();
        if (which == 9) {
            int lane = upTo(4);
            int n = random.nextInt(4) == 0 ? v : random.nextInt(42);
            told("block", real.block(b, lane, n), model.block(b, lane, n), b, lane, n);
        } else if (which == 10) {
            told("lend", real.lend(b, c, flag), model.lend(b, c, flag), b, c, flag);
        } else if (which == 11) {
            told("isLent", number(real.isLent(b, c)), number(model.isLent(b, c)), b, c);
        } else if (which == 12) {
            int what = upTo(2);
            told("of", real.of(b, what), model.of(b, what), b, what);
        } else if (which < 17) {
            told("at", real.at(b, i), model.at(b, i), b, i);
        } else if (which == 17) {
            told("put", real.put(b, i, v), model.put(b, i, v), b, i, v);
        } else if (which == 18) {
            int n = upTo(12);
            told("copy", real.copy(b, i, c, j, n), model.copy(b, i, c, j, n), b, i, c, j, n);
        } else {
            int lane = upTo(4);
            told("bind", real.bind(lane), model.bind(lane), lane);
        }
    }

    private void stepOfPlay() {
        int which = random.nextInt(10);
        int p = upTo(6);
        int f = upTo(8);
        int v = value();
        if (which == 0) {
            int kind = upTo(6);
            told("function", real.function(kind, v), model.function(kind, v), kind, v);
        } else if (which < 6) {
            int way = upTo(3);
            int b = upTo(10);
            int from = random.nextInt(3) == 0 ? upTo(12) : 0;
            int n = upTo(random.nextInt(3) == 0 ? 40 : 6);
            told("play", real.play(p, way, f, b, from, n), model.play(p, way, f, b, from, n), p, way, f, b, from, n);
        } else if (which == 6) {
            int n = upTo(random.nextInt(4) == 0 ? 42 : 4);
            told("agree", number(real.agree(p, f, n)), number(model.agree(p, f, n)), p, f, n);
        } else if (which == 7) {
            int y = value();
            told("find", real.find(v, y), model.find(v, y), v, y);
        } else if (which == 8) {
            told("next", real.next(p), model.next(p), p);
        } else {
            int what = upTo(5);
            told("count", real.count(what), model.count(what), what);
        }
    }
}
