/** Each promise of the document by hand: ordinary inputs, the edges it names, and wrong inputs. */
public final class PromiseTest {
    private static final int BAD = -1, FULL = -2, OWN = -3, ZERO = -4, NONE = -5, KIND = -6, INDEX = -7, SIZE = -8, STORE = -9;
    private static final int TONE = 0, GLASS = 1, DRUM = 2, BELL = 3, READER = 4;
    private static final int SHORTS = 0, INTS = 1, FLOATS = 2, DOUBLES = 3;
    private static final int MIN = Integer.MIN_VALUE, MAX = Integer.MAX_VALUE;

    private static int wrong = 0;
    private static int promise = 0;
    private static CallWays2 x;

    private static void due(String call, long got, long want) {
        if (got != want) {
            wrong++;
            System.out.println("promise " + promise + ": " + call + " answered " + got + ", due is " + want);
        }
    }

    private static void due(String call, boolean got, boolean want) {
        due(call, got ? 1L : 0L, want ? 1L : 0L);
    }

    private static void dueState(String behind, int want) {
        due("state() behind " + behind, x.state(), want);
    }

    private static void dueDouble(String call, long got, double want) {
        due(call + " (a double: " + want + ")", got, Double.doubleToLongBits(want));
    }

    private static void fresh(int ofPromise, int... sorts) {
        promise = ofPromise;
        x = new CallWays2();
        for (int sort : sorts) x.instrument(sort);
    }

    public static void main(String[] args) {
        newObject();
        instruments();
        notes();
        knobs();
        phases();
        tables();
        blocks();
        lending();
        lentOnes();
        whatBlocksAre();
        bits();
        puts();
        copies();
        bindings();
        functions();
        playRefused();
        playTones();
        playDrums();
        playBells();
        playReaders();
        playWays();
        playLanes();
        agreements();
        finds();
        nexts();
        states();
        counts();
        System.out.println(wrong == 0 ? "all promises hold" : wrong + " answers are not as due");
        if (wrong != 0) System.exit(1);
    }

    private static void newObject() {
        fresh(1);
        for (int what = 0; what < 5; what++) due("count(" + what + ")", x.count(what), 0);
        for (int b = 0; b < 10; b++) due("of(" + b + ", 0)", x.of(b, 0), NONE);
        due("state()", x.state(), 0);
        due("note(0, 1, true)", x.note(0, 1, true), BAD);
        due("find(0, 0)", x.find(0, 0), -1);
        due("isLent(0, 9)", x.isLent(0, 9), true);
        due("bind(0)", x.bind(0), -1);
        CallWays2 other = new CallWays2();
        x.instrument(0);
        x.block(0, 0, 1);
        due("count(0) of another object", other.count(0), 0);
        due("of(0, 0) of another object", other.of(0, 0), NONE);
    }

    private static void instruments() {
        fresh(2);
        for (int wrongSort : new int[] {-1, 5, MIN, MAX}) due("instrument(" + wrongSort + ")", x.instrument(wrongSort), BAD);
        for (int i = 0; i < 12; i++) due("instrument(" + i % 5 + ")", x.instrument(i % 5), i);
        due("instrument(0) beyond 12", x.instrument(0), FULL);
        due("instrument(5) beyond 12", x.instrument(5), BAD);
        due("count(0)", x.count(0), 12);
        fresh(2, TONE, GLASS, DRUM, BELL, READER);
        for (int i = 0; i < 5; i++) x.note(i, 100, true);
        for (int i = 1; i < 4; i++) x.knob(i, 1, 1);
        x.knob(1, 0, 9);
        x.knob(3, 2, -1);
        dueDouble("next of a TONE", x.next(0), -128.0);
        dueDouble("next of a GLASS", x.next(1), -247.0);
        dueDouble("next of a DRUM", x.next(2), 100.0);
        dueDouble("next of a BELL", x.next(3), 100.0);
        due("next of a READER", x.next(4), 0);
        dueState("next of a READER", NONE);
    }

    private static void notes() {
        fresh(3, TONE, DRUM);
        due("note(0, 0, false)", x.note(0, 0, false), 0);
        due("note(0, 127, true)", x.note(0, 127, true), 0);
        due("note(0, 1, true)", x.note(0, 1, true), 1);
        due("note(0, 1, false)", x.note(0, 1, false), 1);
        due("note(0, 1, true)", x.note(0, 1, true), 0);
        due("note(0, 128, false)", x.note(0, 128, false), BAD);
        due("note(0, -1, false)", x.note(0, -1, false), BAD);
        due("note(2, 1, true)", x.note(2, 1, true), BAD);
        due("note(-1, 1, true)", x.note(-1, 1, true), BAD);
        due("note(0, 2, true) behind wrong ones", x.note(0, 2, true), 1);
        x.phase(0, 64);
        dueDouble("next(0) of PITCH 2 at PHASE 64", x.next(0), 0.0);
        x.knob(1, 1, 1);
        x.note(1, 60, true);
        x.note(1, 90, false);
        dueDouble("next(1), LEVEL stays behind OFF", x.next(1), 60.0);
        x.note(1, 128, true);
        dueDouble("next(1), LEVEL stays behind BAD", x.next(1), 60.0);
        x.note(1, 0, true);
        dueDouble("next(1), LEVEL of PITCH 0", x.next(1), 0.0);
    }

    private static void knobs() {
        fresh(4, GLASS);
        for (int k = 0; k < 4; k++) due("knob(0, " + k + ", -7)", x.knob(0, k, -7 - k), 0);
        for (int k = 0; k < 4; k++) due("knob(0, " + k + ", MAX)", x.knob(0, k, MAX), -7 - k);
        dueState("a knob that was below 0", 0);
        dueDouble("next of a GLASS that is OFF", x.next(0), 2147483647.0);
        int[][] wrongOnes = {{0, 4}, {0, -1}, {1, 0}, {-1, 0}, {MAX, 0}, {0, MIN}};
        for (int[] w : wrongOnes) {
            x.phase(0, 0);
            due("knob(" + w[0] + ", " + w[1] + ", 1)", x.knob(w[0], w[1], 1), 0);
            dueState("a wrong knob", BAD);
        }
        due("knob(0, 3, 0)", x.knob(0, 3, 0), MAX);
    }

    private static void phases() {
        fresh(5, TONE, TONE);
        due("phase(0, MIN)", x.phase(0, MIN), 0);
        due("phase(0, MAX)", x.phase(0, MAX), MIN);
        dueState("a phase that was below 0", 0);
        due("phase(1, 3)", x.phase(1, 3), 0);
        due("phase(2, 1)", x.phase(2, 1), 0);
        dueState("phase(2, 1)", BAD);
        due("phase(-1, 1)", x.phase(-1, 1), 0);
        dueState("phase(-1, 1)", BAD);
        due("phase(1, 4) behind wrong ones", x.phase(1, 4), 3);
        dueState("phase(1, 4)", 0);
        x.block(0, INTS, 1);
        x.play(0, 0, 0, 0, 0, 1);
        due("phase(0, 0) beyond MAX", x.phase(0, 0), MIN);
    }

    private static void tables() {
        fresh(6, READER, READER);
        x.block(0, INTS, 2);
        x.put(0, 0, 5);
        due("table(0, 0, true)", x.table(0, 0, true), 1);
        due("table(1, 0, false)", x.table(1, 0, false), 1);
        x.put(0, 0, 6);
        dueDouble("next(0), LENT", x.next(0), 6.0);
        dueDouble("next(1), a copy", x.next(1), 5.0);
        x.block(0, DOUBLES, 1);
        dueDouble("next(0), its BLOCK holding others", x.next(0), 6.0);
        for (int b : new int[] {-2, 10, MIN, MAX}) due("table(0, " + b + ", true)", x.table(0, b, true), BAD);
        due("table(2, 0, true)", x.table(2, 0, true), BAD);
        due("table(-1, -1, true)", x.table(-1, -1, true), BAD);
        dueDouble("next(0) behind wrong tables", x.next(0), 6.0);
        due("table(0, -1, false)", x.table(0, -1, false), 1);
        x.next(0);
        dueState("next(0) with no TABLE", NONE);
        due("table(1, 9, false), of nothing", x.table(1, 9, false), 1);
        x.next(1);
        dueState("next(1) with a TABLE of nothing", NONE);
        x.table(0, 0, true);
        due("table(0, 9, true), of nothing", x.table(0, 9, true), 1);
        x.next(0);
        dueState("next(0) with a TABLE of nothing", NONE);
    }

    private static void blocks() {
        fresh(7);
        for (int lane = 0; lane < 4; lane++) {
            due("block(9, " + lane + ", 40)", x.block(9, lane, 40), 1);
            due("of(9, 0)", x.of(9, 0), lane);
            due("of(9, 1)", x.of(9, 1), 40);
            due("at(9, 39)", x.at(9, 39), 0);
            x.put(9, 39, 3);
        }
        due("block(0, 0, 0)", x.block(0, 0, 0), 1);
        due("of(0, 1)", x.of(0, 1), 0);
        due("block(9, 0, 41)", x.block(9, 0, 41), BAD);
        due("block(9, 4, 1)", x.block(9, 4, 1), BAD);
        due("block(9, -1, 1)", x.block(9, -1, 1), BAD);
        due("block(10, 0, 1)", x.block(10, 0, 1), BAD);
        due("block(-1, 0, 1)", x.block(-1, 0, 1), BAD);
        due("block(-1, 0, -1)", x.block(-1, 0, -1), BAD);
        due("block(0, 4, -1)", x.block(0, 4, -1), BAD);
        due("block(9, 0, -1)", x.block(9, 0, -1), SIZE);
        due("block(9, 0, MIN)", x.block(9, 0, MIN), SIZE);
        due("of(9, 1) behind wrong ones", x.of(9, 1), 40);
        due("of(9, 0) behind wrong ones", x.of(9, 0), DOUBLES);
    }

    private static void lending() {
        fresh(8);
        x.block(0, INTS, 2);
        x.put(0, 1, 8);
        due("lend(1, 0, true)", x.lend(1, 0, true), 1);
        due("lend(2, 0, false)", x.lend(2, 0, false), 1);
        x.put(1, 1, 9);
        due("at(0, 1), LENT", x.at(0, 1), 9);
        due("at(2, 1), a copy", x.at(2, 1), 8);
        due("of(2, 0)", x.of(2, 0), INTS);
        x.block(0, DOUBLES, 1);
        due("at(1, 1), the first one holding others", x.at(1, 1), 9);
        due("lend(1, 1, false)", x.lend(1, 1, false), 1);
        due("at(1, 1), a copy of its own", x.at(1, 1), 9);
        due("lend(1, 9, false)", x.lend(1, 9, false), NONE);
        due("at(1, 1) behind NONE", x.at(1, 1), 9);
        due("lend(1, 9, true)", x.lend(1, 9, true), 1);
        due("of(1, 0), nothing LENT", x.of(1, 0), NONE);
        due("lend(10, 0, true)", x.lend(10, 0, true), BAD);
        due("lend(0, 10, true)", x.lend(0, 10, true), BAD);
        due("lend(-1, 9, false)", x.lend(-1, 9, false), BAD);
        due("lend(0, -1, false)", x.lend(0, -1, false), BAD);
    }

    private static void lentOnes() {
        fresh(9);
        due("isLent(0, 1), both nothing", x.isLent(0, 1), true);
        x.block(0, INTS, 0);
        x.block(1, INTS, 0);
        due("isLent(0, 1), alike", x.isLent(0, 1), false);
        due("isLent(0, 2), one nothing", x.isLent(0, 2), false);
        due("isLent(0, 0)", x.isLent(0, 0), true);
        x.lend(1, 0, true);
        due("isLent(0, 1), LENT", x.isLent(0, 1), true);
        x.lend(2, 1, true);
        due("isLent(0, 2), LENT on", x.isLent(0, 2), true);
        x.lend(1, 0, false);
        due("isLent(0, 1), a copy", x.isLent(0, 1), false);
        x.lend(0, 0, false);
        due("isLent(0, 2), a copy of its own", x.isLent(0, 2), false);
        due("isLent(-1, -1)", x.isLent(-1, -1), false);
        due("isLent(10, 10)", x.isLent(10, 10), false);
        due("isLent(3, MIN)", x.isLent(3, MIN), false);
        due("isLent(MAX, 3)", x.isLent(MAX, 3), false);
    }

    private static void whatBlocksAre() {
        fresh(10);
        x.block(4, FLOATS, 17);
        due("of(4, 0)", x.of(4, 0), FLOATS);
        due("of(4, 1)", x.of(4, 1), 17);
        due("of(4, 2)", x.of(4, 2), BAD);
        due("of(4, -1)", x.of(4, -1), BAD);
        due("of(3, 2)", x.of(3, 2), BAD);
        due("of(3, 1)", x.of(3, 1), NONE);
        due("of(10, 0)", x.of(10, 0), BAD);
        due("of(-1, 0)", x.of(-1, 0), BAD);
    }

    private static void bits() {
        fresh(11);
        int[] values = {0, 1, -1, 2, 3, 127, -128, 32767, -32768, 16777215, -16777217, 123456789, MIN, MIN + 1, MAX, MAX - 1};
        for (int lane = 0; lane < 4; lane++) x.block(lane, lane, 1);
        for (int v : values) {
            for (int lane = 0; lane < 4; lane++) x.put(lane, 0, v);
            due("at a SHORT of " + v, x.at(0, 0), (short) v);
            due("at an INT of " + v, x.at(1, 0), v);
            due("at a FLOAT of " + v, x.at(2, 0), Float.floatToIntBits((float) v));
            dueDouble("at a DOUBLE of " + v, x.at(3, 0), v);
        }
        dueState("at a DOUBLE", 0);
        wrongPlaces();
        fadingBits();
    }

    private static void wrongPlaces() {
        int[][] places = {{10, 0, BAD}, {-1, 0, BAD}, {9, 0, NONE}, {9, -1, NONE}, {0, 1, INDEX}, {0, -1, INDEX}, {0, MAX, INDEX}, {0, MIN, INDEX}};
        for (int[] p : places) {
            x.at(3, 0);
            due("at(" + p[0] + ", " + p[1] + ")", x.at(p[0], p[1]), 0);
            dueState("at(" + p[0] + ", " + p[1] + ")", p[2]);
        }
        x.put(0, 0, -3);
        due("at(0, 0), below 0", x.at(0, 0), -3);
        dueState("at(0, 0), below 0", 0);
    }

    /** A drum fades through the subnormal numbers to zero, of either sign, in each lane. */
    private static void fadingBits() {
        for (int knob : new int[] {3, -3, 7, 500, -499, 1000}) {
            fresh(11, DRUM);
            x.knob(0, 1, knob);
            x.note(0, 127, true);
            x.block(0, DOUBLES, 40);
            x.block(1, FLOATS, 40);
            double level = 127.0;
            int played = 0;
            for (int i = 0; i < 30; i++) {
                x.play(0, 0, 0, i % 2, 0, 40);
                for (int k = 0; k < 40; k++) {
                    long want = i % 2 == 0 ? Double.doubleToLongBits(level) : Float.floatToIntBits((float) level);
                    // An object is used for 512 calls at most.
                    if (played < 400 && (k % 4 == 0 || Math.abs(level) < 1e-300)) {
                        due("at, KNOB " + knob + ", LEVEL " + level, x.at(i % 2, k), want);
                        played++;
                    }
                    level = level * (double) (1000 / knob) / 1000.0;
                }
            }
        }
    }

    private static void puts() {
        fresh(12);
        for (int lane = 0; lane < 4; lane++) {
            x.block(lane, lane, 2);
            due("put(" + lane + ", 1, 40000)", x.put(lane, 1, 40000), 1);
            dueState("put", 0);
            due("at(" + lane + ", 0)", x.at(lane, 0), 0);
        }
        due("at(0, 1)", x.at(0, 1), -25536);
        due("at(1, 1)", x.at(1, 1), 40000);
        due("at(2, 1)", x.at(2, 1), Float.floatToIntBits(40000f));
        dueDouble("at(3, 1)", x.at(3, 1), 40000.0);
        int[][] places = {{10, 0, BAD}, {-1, 0, BAD}, {9, 0, NONE}, {9, -1, NONE}, {1, 2, INDEX}, {1, -1, INDEX}, {1, MAX, INDEX}, {1, MIN, INDEX}};
        for (int[] p : places) {
            x.at(1, 0);
            due("put(" + p[0] + ", " + p[1] + ", 1)", x.put(p[0], p[1], 1), p[2]);
            dueState("put(" + p[0] + ", " + p[1] + ", 1)", p[2]);
        }
    }

    private static void copies() {
        fresh(13);
        x.block(0, INTS, 5);
        x.block(1, INTS, 3);
        x.block(2, SHORTS, 5);
        for (int i = 0; i < 5; i++) x.put(0, i, i + 1);
        due("copy(0, 1, 1, 0, 3)", x.copy(0, 1, 1, 0, 3), 1);
        dueState("copy", 0);
        for (int i = 0; i < 3; i++) due("at(1, " + i + ")", x.at(1, i), i + 2);
        due("copy(0, 0, 0, 1, 4) within one", x.copy(0, 0, 0, 1, 4), 1);
        int[] behind = {1, 1, 2, 3, 4};
        for (int i = 0; i < 5; i++) due("at(0, " + i + ") behind it", x.at(0, i), behind[i]);
        due("copy(0, 2, 0, 0, 3) within one", x.copy(0, 2, 0, 0, 3), 1);
        int[] back = {2, 3, 4, 3, 4};
        for (int i = 0; i < 5; i++) due("at(0, " + i + ") behind it", x.at(0, i), back[i]);
        due("copy(0, 5, 1, 3, 0)", x.copy(0, 5, 1, 3, 0), 1);
        int[][] wrongOnes = {
            {10, 0, 0, 0, 1, BAD}, {0, 0, -1, 0, 1, BAD}, {-1, 0, 9, 0, 1, BAD},
            {9, 0, 0, 0, 1, NONE}, {0, 0, 9, 0, 1, NONE}, {9, -1, 2, 0, 1, NONE}, {9, 0, 9, 0, 0, NONE},
            {0, 0, 2, 0, 1, STORE}, {2, 0, 0, 0, 0, STORE}, {0, -1, 2, 0, 1, STORE}, {0, 0, 2, 0, -1, STORE},
            {0, 0, 1, 0, 4, INDEX}, {1, 0, 0, 0, 4, INDEX}, {0, -1, 1, 0, 1, INDEX}, {0, 0, 1, -1, 1, INDEX},
            {0, 0, 1, 0, -1, INDEX}, {0, 6, 1, 0, 0, INDEX}, {0, 0, 1, 4, 0, INDEX}, {0, MAX, 1, 0, 1, INDEX},
            {0, 1, 1, 0, MAX, INDEX}, {0, 0, 1, MAX, MAX, INDEX}, {0, 0, 1, 0, MIN, INDEX}};
        for (int[] w : wrongOnes) {
            String call = "copy(" + w[0] + ", " + w[1] + ", " + w[2] + ", " + w[3] + ", " + w[4] + ")";
            x.at(0, 0);
            due(call, x.copy(w[0], w[1], w[2], w[3], w[4]), w[5]);
            dueState(call, w[5]);
        }
        for (int i = 0; i < 5; i++) due("at(0, " + i + ") behind wrong ones", x.at(0, i), back[i]);
    }

    private static void bindings() {
        fresh(14);
        due("bind(4)", x.bind(4), -2);
        due("bind(-1)", x.bind(-1), -2);
        due("bind(0)", x.bind(0), -1);
        due("bind(3)", x.bind(3), 0);
        due("bind(MAX)", x.bind(MAX), -2);
        due("bind(3)", x.bind(3), 3);
        due("bind(1)", x.bind(1), 3);
    }

    private static void functions() {
        fresh(15);
        due("function(6, 0)", x.function(6, 0), BAD);
        due("function(-1, 0)", x.function(-1, 0), BAD);
        for (int i = 0; i < 8; i++) due("function(" + i % 6 + ", " + i + ")", x.function(i % 6, i), i);
        due("function(0, 0) beyond 8", x.function(0, 0), FULL);
        due("function(6, 0) beyond 8", x.function(6, 0), BAD);
        due("count(1)", x.count(1), 8);
    }

    private static void playRefused() {
        fresh(16, TONE);
        x.note(0, 1, true);
        x.block(0, INTS, 4);
        x.put(0, 0, 5);
        x.function(4, 0);
        int[][] wrongOnes = {
            {1, 0, 0, 0, 0, 1, BAD}, {-1, 0, 0, 0, 0, 1, BAD}, {0, -1, 0, 0, 0, 1, BAD}, {0, 3, 0, 0, 0, 1, BAD},
            {0, 0, 0, 10, 0, 1, BAD}, {0, 0, 0, -1, 0, 1, BAD}, {0, 2, 1, 0, 0, 1, BAD}, {0, 2, -1, 9, -1, -1, BAD},
            {0, 0, 0, 9, 0, 1, NONE}, {0, 1, 0, 9, -1, -1, NONE}, {0, 2, 0, 9, 0, 1, NONE},
            {0, 1, 0, 0, 0, 1, KIND}, {0, 1, 0, 0, -1, -1, KIND},
            {0, 0, 0, 0, -1, -1, SIZE}, {0, 2, 0, 0, 0, MIN, SIZE},
            {0, 0, 0, 0, -1, 0, INDEX}, {0, 0, 0, 0, 0, 5, INDEX}, {0, 0, 0, 0, 4, 1, INDEX}, {0, 0, 0, 0, 5, 0, INDEX},
            {0, 0, 0, 0, 1, MAX, INDEX}, {0, 0, 0, 0, MAX, MAX, INDEX}, {0, 0, 0, 0, MIN, 1, INDEX}};
        for (int[] w : wrongOnes) {
            String call = "play(" + w[0] + ", " + w[1] + ", " + w[2] + ", " + w[3] + ", " + w[4] + ", " + w[5] + ")";
            x.at(0, 0);
            due(call, x.play(w[0], w[1], w[2], w[3], w[4], w[5]), w[6]);
            dueState(call, w[6]);
        }
        due("at(0, 0) behind wrong ones", x.at(0, 0), 5);
        due("phase(0, 0) behind wrong ones", x.phase(0, 0), 0);
        due("count(4) behind wrong ones", x.count(4), 0);
        due("play(0, 0, 99, 0, 4, 0)", x.play(0, 0, 99, 0, 4, 0), 0);
        x.bind(INTS);
        due("play(0, 1, -9, 0, 0, 4)", x.play(0, 1, -9, 0, 0, 4), 4);
        due("at(0, 3)", x.at(0, 3), -125);
    }

    private static void playTones() {
        fresh(16, TONE, GLASS);
        x.block(0, INTS, 40);
        x.note(0, 127, true);
        x.phase(0, MAX - 1);
        due("play, beyond MAX", x.play(0, 0, 0, 0, 0, 4), 4);
        for (int i = 0; i < 4; i++) due("at(0, " + i + ")", x.at(0, i), (MAX - 1 + i) * 127 % 256 - 128);
        x.note(0, 127, false);
        x.play(0, 0, 0, 0, 1, 2);
        due("at(0, 0), ahead of those PLAYED", x.at(0, 0), (MAX - 1) * 127 % 256 - 128);
        due("at(0, 1), OFF", x.at(0, 1), 0);
        due("at(0, 2), OFF", x.at(0, 2), 0);
        due("at(0, 3), behind those PLAYED", x.at(0, 3), (MAX + 2) * 127 % 256 - 128);
        x.block(1, DOUBLES, 40);
        x.knob(1, 0, MAX);
        x.note(1, 3, true);
        x.phase(1, 100);
        due("play of a GLASS", x.play(1, 0, 0, 1, 0, 40), 40);
        for (int i = 0; i < 40; i++) dueDouble("at(1, " + i + ")", x.at(1, i), 2.0 * ((100 + i) * 3 % 256 - 128) + MAX);
    }

    private static void playDrums() {
        fresh(16, DRUM);
        x.block(0, DOUBLES, 4);
        for (int i = 0; i < 4; i++) x.put(0, i, 7);
        x.note(0, 100, true);
        due("play by ZERO", x.play(0, 0, 0, 0, 1, 2), ZERO);
        int[] silent = {7, 0, 0, 7};
        for (int i = 0; i < 4; i++) dueDouble("at(0, " + i + ")", x.at(0, i), silent[i]);
        due("phase behind ZERO", x.phase(0, 0), 1);
        x.knob(0, 1, -3);
        due("play", x.play(0, 0, 0, 0, 0, 3), 3);
        dueDouble("at(0, 0)", x.at(0, 0), 100.0);
        dueDouble("at(0, 1)", x.at(0, 1), 100.0 * -333.0 / 1000.0);
        dueDouble("at(0, 2)", x.at(0, 2), 100.0 * -333.0 / 1000.0 * -333.0 / 1000.0);
        x.knob(0, 1, MIN);
        x.play(0, 0, 0, 0, 0, 2);
        dueDouble("at(0, 1), LEVEL times 0 of one below 0", x.at(0, 1), -0.0);
        x.knob(0, 1, 1001);
        x.note(0, 9, true);
        x.play(0, 0, 0, 0, 0, 2);
        dueDouble("at(0, 1), LEVEL times 0", x.at(0, 1), 0.0);
    }

    private static void playBells() {
        fresh(16, BELL);
        x.block(0, DOUBLES, 3);
        due("play by OWN, ahead of ZERO", x.play(0, 0, 0, 0, 0, 3), OWN);
        due("play by ZERO", x.play(0, 0, 0, 0, 0, 3), ZERO);
        due("phase", x.phase(0, -3), 2);
        x.knob(0, 1, 2);
        x.knob(0, 2, -1);
        x.note(0, 64, true);
        due("play to OWN", x.play(0, 0, 0, 0, 0, 3), OWN);
        for (int i = 0; i < 3; i++) dueDouble("at(0, " + i + "), SILENCE", x.at(0, i), 0.0);
        due("play", x.play(0, 0, 0, 0, 0, 3), 3);
        dueDouble("at(0, 0), LEVEL having stayed at OWN", x.at(0, 0), 16.0);
        dueDouble("at(0, 1), odd", x.at(0, 1), -8.0);
        dueDouble("at(0, 2)", x.at(0, 2), 4.0);
        x.phase(0, -3);
        x.play(0, 0, 0, 0, 0, 1);
        dueDouble("at(0, 0), odd below 0", x.at(0, 0), -2.0);
        x.note(0, 0, true);
        x.phase(0, 1);
        x.play(0, 0, 0, 0, 0, 1);
        dueDouble("at(0, 0), -1.0 times 0.0", x.at(0, 0), -0.0);
        x.block(1, FLOATS, 1);
        x.phase(0, 1);
        x.play(0, 0, 0, 1, 0, 1);
        due("at(1, 0), a FLOAT", x.at(1, 0), MIN);
        x.phase(0, -1);
        x.play(0, 0, 0, 1, 0, 1);
        due("at(1, 0), SILENCE has no sign", x.at(1, 0), 0);
    }

    private static void playReaders() {
        fresh(16, READER);
        x.block(0, DOUBLES, 2);
        x.phase(0, -1);
        due("play, SIZE ahead of NONE", x.play(0, 0, 0, 0, 0, 2), SIZE);
        due("play by NONE", x.play(0, 0, 0, 0, 0, 2), NONE);
        x.table(0, 0, true);
        due("play by KIND", x.play(0, 0, 0, 0, 0, 2), KIND);
        due("phase behind three", x.phase(0, 0), 2);
        x.block(1, INTS, 4);
        for (int i = 0; i < 4; i++) x.put(1, i, 10 + i);
        x.table(0, 1, true);
        x.knob(0, 0, 3);
        x.phase(0, -3);
        x.note(0, 0, true);
        due("play of its own TABLE", x.play(0, 0, 0, 1, 1, 3), 3);
        int[] all = {10, 10, 11, 12};
        for (int i = 0; i < 4; i++) due("at(1, " + i + "), all at once", x.at(1, i), all[i]);
        x.knob(0, 0, MAX);
        x.phase(0, MAX);
        due("play, INDEX beyond MAX", x.play(0, 0, 0, 0, 0, 1), INDEX);
        x.knob(0, 0, MIN);
        x.phase(0, MIN);
        due("play, the sum being 0", x.play(0, 0, 0, 0, 0, 1), 1);
        dueDouble("at(0, 0)", x.at(0, 0), 10.0);
        x.knob(0, 0, 0);
        x.phase(0, 2);
        due("play to INDEX", x.play(0, 0, 0, 1, 0, 3), INDEX);
        for (int i = 0; i < 4; i++) due("at(1, " + i + "), SILENCE", x.at(1, i), i < 3 ? 0 : 12);
        due("phase behind it", x.phase(0, -16), 5);
        x.note(0, 0, false);
        due("play, OFF, a row of 0", x.play(0, 0, 0, 0, 0, 1), INDEX);
    }

    private static void playWays() {
        fresh(16, BELL);
        int[][] kinds = {{0, -9}, {1, -3}, {2, 1}, {3, 1}, {4, 1}, {5, 99}, {2, 0}, {3, 0}};
        for (int[] k : kinds) x.function(k[0], k[1]);
        x.block(0, DOUBLES, 2);
        x.knob(0, 1, 1);
        x.knob(0, 2, -1);
        x.note(0, 12, true);
        double[][] wants = {{3, -21}, {-36, 36}, {1, -12}, {12, 1}, {12, -12}, {12, -12}, {0, -12}, {12, 0}};
        for (int f = 0; f < 8; f++) {
            due("play by FUNCTION " + f, x.play(0, 2, f, 0, 0, 2), 2);
            dueDouble("at(0, 0)", x.at(0, 0), wants[f][0]);
            dueDouble("at(0, 1)", x.at(0, 1), wants[f][1]);
        }
        x.note(0, 99, true);
        due("play to OWN of a FUNCTION", x.play(0, 2, 5, 0, 0, 2), OWN);
        dueState("it", OWN);
        dueDouble("at(0, 1), SILENCE", x.at(0, 1), 0.0);
        due("phase behind it", x.phase(0, 1), 17);
        x.note(0, 0, true);
        x.play(0, 2, 6, 0, 0, 1);
        dueDouble("the lesser of -0.0 and 0", x.at(0, 0), -0.0);
        x.phase(0, 1);
        x.play(0, 2, 7, 0, 0, 1);
        dueDouble("the greater of -0.0 and 0", x.at(0, 0), 0.0);
        for (int lane = 0; lane < 4; lane++) {
            x.block(lane, lane, 2);
            x.bind(lane);
            for (int b = 0; b <= lane; b++) due("play by the handle", x.play(0, 1, 0, b, 0, 2), b == lane ? 2 : KIND);
        }
    }

    private static void playLanes() {
        fresh(16, GLASS);
        x.function(1, MAX);
        x.function(1, MIN);
        for (int lane = 0; lane < 4; lane++) x.block(lane, lane, 1);
        for (int knob : new int[] {1, -1, 3, 40000, MAX, MIN}) {
            x.knob(0, 0, knob);
            for (int f = 0; f < 2; f++) {
                double want = (double) knob * (f == 0 ? MAX : MIN);
                for (int lane = 0; lane < 4; lane++) x.play(0, 2, f, lane, 0, 1);
                due("at a SHORT of " + want, x.at(0, 0), (short) (int) want);
                due("at an INT of " + want, x.at(1, 0), (int) want);
                due("at a FLOAT of " + want, x.at(2, 0), Float.floatToIntBits((float) want));
                dueDouble("at a DOUBLE of " + want, x.at(3, 0), want);
            }
        }
    }

    private static void agreements() {
        fresh(17, BELL, READER);
        x.function(4, 0);
        x.function(0, 1);
        x.function(5, -60);
        x.function(3, -59);
        x.function(1, 1);
        x.function(2, 0);
        x.knob(0, 1, 1);
        x.knob(0, 2, 4);
        x.note(0, 60, true);
        due("agree by x", x.agree(0, 0, 40), true);
        due("agree by x + 1, of none", x.agree(0, 1, 0), true);
        due("agree by x + 1", x.agree(0, 1, 1), false);
        due("agree by OWN, ahead of it", x.agree(0, 2, 1), true);
        due("agree by OWN, at it", x.agree(0, 2, 2), false);
        due("agree by the greater, ahead", x.agree(0, 3, 1), true);
        due("agree by the greater, at it", x.agree(0, 3, 2), false);
        due("agree by x * 1", x.agree(0, 4, 40), true);
        due("phase(0, 4), as it was", x.phase(0, 4), 0);
        due("agree by x + 1, both FAILING first", x.agree(0, 1, 40), true);
        x.knob(0, 1, 2);
        x.phase(0, 0);
        x.agree(0, 0, 3);
        dueDouble("next(0), LEVEL as it was", x.next(0), 60.0);
        x.note(0, 0, true);
        due("agree by the lesser, of zeros", x.agree(0, 5, 4), true);
        due("agree of a READER with no TABLE", x.agree(1, 1, 1), true);
        due("agree, n above 40", x.agree(0, 0, 41), false);
        due("agree, n below 0", x.agree(0, 0, -1), false);
        due("agree, no such FUNCTION", x.agree(0, 6, 0), false);
        due("agree, no such FUNCTION", x.agree(0, -1, 0), false);
        due("agree, no such INSTRUMENT", x.agree(2, 0, 0), false);
        due("agree, no such INSTRUMENT", x.agree(-1, 0, 0), false);
        due("count(4), none PLAYED", x.count(4), 0);
    }

    private static void finds() {
        fresh(18);
        int[][] kinds = {{5, 4}, {0, 2}, {1, 3}, {2, -7}, {3, 50}, {0, MAX}, {5, 9}, {4, 0}};
        for (int[] k : kinds) x.function(k[0], k[1]);
        due("find(5, 5) by OWN's x", x.find(5, 5), 0);
        due("find(4, 4), OWN being none", x.find(4, 4), 6);
        due("find(1, 3), the first", x.find(1, 3), 1);
        due("find(4, 12)", x.find(4, 12), 2);
        due("find(4, -7)", x.find(4, -7), 3);
        due("find(4, 50)", x.find(4, 50), 4);
        due("find(MIN, -1)", x.find(MIN, -1), 5);
        due("find(MAX, MIN + 1), as doubles", x.find(MAX, MIN + 1), -1);
        due("find(0, 1)", x.find(0, 1), -1);
    }

    private static void nexts() {
        fresh(19, DRUM, BELL, READER);
        x.knob(0, 1, 2);
        x.note(0, 80, true);
        for (int i = 0; i < 3; i++) dueDouble("next(0)", x.next(0), 80.0);
        dueState("next(0)", 0);
        due("phase(0, 0)", x.phase(0, 0), 0);
        due("next(1), OWN", x.next(1), 0);
        dueState("next(1)", OWN);
        x.phase(1, 1);
        due("next(1), ZERO", x.next(1), 0);
        dueState("next(1)", ZERO);
        x.knob(1, 1, 1);
        dueDouble("next(1)", x.next(1), -0.0);
        dueState("next(1), its BITS below 0", 0);
        due("next(2), NONE", x.next(2), 0);
        dueState("next(2)", NONE);
        x.phase(2, -7);
        x.next(2);
        dueState("next(2)", SIZE);
        due("phase(2, 0)", x.phase(2, 0), -7);
        for (int i : new int[] {3, -1, MAX, MIN}) {
            x.phase(0, 0);
            due("next(" + i + ")", x.next(i), 0);
            dueState("next(" + i + ")", BAD);
        }
        due("count(4), none PLAYED", x.count(4), 0);
    }

    /** Calls that do not say so leave what the latest one came to. */
    private static void states() {
        fresh(20, TONE);
        dueState("nothing", 0);
        x.phase(9, 0);
        x.instrument(0);
        x.instrument(9);
        x.note(0, 1, true);
        x.note(0, 200, true);
        x.table(0, -1, true);
        x.table(0, 99, true);
        x.block(0, 0, 4);
        x.block(1, 0, -1);
        x.lend(1, 0, true);
        x.lend(2, 9, false);
        x.isLent(0, 1);
        x.of(0, 0);
        x.of(9, 0);
        x.bind(0);
        x.bind(9);
        x.function(0, 1);
        x.function(9, 1);
        x.agree(0, 0, 1);
        x.find(1, 1);
        x.count(0);
        x.count(9);
        x.state();
        dueState("calls that do not say so", BAD);
        x.play(0, 0, 0, 0, 0, 4);
        dueState("play, well", 0);
        x.function(9, 1);
        x.instrument(9);
        x.of(9, 0);
        x.lend(2, 9, false);
        dueState("wrong calls that do not say so", 0);
        x.play(0, 0, 0, 9, 0, 0);
        dueState("play", NONE);
        x.knob(0, 0, 0);
        dueState("knob", 0);
        x.put(0, 4, 0);
        dueState("put", INDEX);
        x.put(0, 3, -4);
        dueState("put", 0);
        x.block(3, 1, 1);
        x.copy(0, 0, 3, 0, 1);
        dueState("copy", STORE);
        x.at(0, 3);
        dueState("at", 0);
    }

    private static void counts() {
        fresh(21, TONE, DRUM);
        x.function(5, 0);
        x.block(0, INTS, 10);
        x.play(0, 0, 0, 0, 0, 10);
        x.play(0, 0, 0, 0, 0, 0);
        x.play(1, 0, 0, 0, 0, 10);
        x.play(0, 2, 0, 0, 0, 10);
        x.play(0, 0, 0, 0, 0, 11);
        x.play(0, 0, 0, 9, 0, 1);
        x.play(0, 3, 0, 0, 0, 1);
        x.play(9, 0, 0, 0, 0, 1);
        x.next(0);
        x.agree(0, 0, 5);
        int[] wants = {2, 1, 2, 4, 12};
        for (int what = 0; what < 5; what++) due("count(" + what + ")", x.count(what), wants[what]);
        for (int what : new int[] {-1, 5, MIN, MAX}) due("count(" + what + ")", x.count(what), BAD);
    }
}
