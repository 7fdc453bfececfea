/** The sentences of PLAYED, of WAYS, and of promise 16 that name a boundary. */
public final class PlayBoundaryTest extends Boundaries {
    public static void main(String[] args) {
        refusedByNumber();
        refusedByBlock();
        refusedByPlaces();
        refusedInRow();
        refusedChangesNothing();
        turned();
        well();
        failing();
        ways();
        functionKinds();
        functionFailures();
        sameInEachWay();
        end();
    }

    /** A tone that is ON, at PHASE 10 and of PITCH 1, and block 0: five INTS, 1 to 5. */
    private static void stage() {
        instruments(TONE);
        x.note(0, 1, true);
        x.phase(0, 10);
        row(0, INTS, 1, 2, 3, 4, 5);
    }

    private static void duePlay(int answer, int instrument, int way, int f, int block, int from, int n) {
        // Something else ahead of it, so that the state can't have stayed from the call before.
        if (answer < 0) x.knob(0, 3, 0);
        else x.knob(-1, 3, 0);
        due(x.play(instrument, way, f, block, from, n), answer);
        dueState(Math.min(answer, 0));
    }

    private static void refusedByNumber() {
        sentence("Promise 16", "BAD: INSTRUMENT", () -> {
            stage();
            for (int i : new int[] {-1, 1, 12, MIN, MAX}) duePlay(BAD, i, 0, 0, 0, 0, 1);
            duePlay(1, 0, 0, 0, 0, 0, 1);
        });
        sentence("Promise 16", "BAD: INSTRUMENT: the last of all", () -> {
            for (int i = 0; i < 12; i++) x.instrument(TONE);
            x.block(0, INTS, 1);
            duePlay(1, 11, 0, 0, 0, 0, 1);
            duePlay(BAD, 12, 0, 0, 0, 0, 1);
        });
        sentence("Promise 16", "BAD: WAY", () -> {
            stage();
            x.bind(INTS);
            x.function(SAME, 0);
            for (int way : new int[] {-1, 3, MIN, MAX}) duePlay(BAD, 0, way, 0, 0, 0, 1);
            for (int way = 0; way < 3; way++) duePlay(1, 0, way, 0, 0, 0, 1);
        });
        sentence("Promise 16", "BAD: BLOCK", () -> {
            stage();
            for (int b : NO_BLOCKS) duePlay(BAD, 0, 0, 0, b, 0, 1);
            x.block(9, INTS, 1);
            duePlay(1, 0, 0, 0, 0, 0, 1);
            duePlay(1, 0, 0, 0, 9, 0, 1);
        });
        sentence("Promise 16", "BAD: FUNCTION", () -> {
            stage();
            duePlay(BAD, 0, 2, 0, 0, 0, 1);
            for (int f = 0; f < 8; f++) {
                duePlay(BAD, 0, 2, f, 0, 0, 1);
                x.function(SAME, 0);
                duePlay(1, 0, 2, f, 0, 0, 1);
            }
            for (int f : new int[] {-1, 8, MIN, MAX}) duePlay(BAD, 0, 2, f, 0, 0, 1);
        });
        sentence("Promise 16", "WAY 0, 1 (f does not count)", () -> {
            stage();
            x.bind(INTS);
            for (int way = 0; way < 2; way++) {
                for (int f : new int[] {-1, 0, 8, MIN, MAX}) duePlay(1, 0, way, f, 0, 0, 1);
            }
            x.function(UNLESS, -128 + 20);
            x.function(PLUS, 1000);
            for (int way = 0; way < 2; way++) {
                for (int f = 0; f < 2; f++) {
                    x.phase(0, 20);
                    duePlay(1, 0, way, f, 0, 0, 1);
                    due(x.at(0, 0), -108);
                }
            }
        });
    }

    private static void refusedByBlock() {
        sentence("Terms, PLAYED", "NONE: it holds nothing", () -> {
            stage();
            x.function(SAME, 0);
            for (int way = 0; way < 3; way++) duePlay(NONE, 0, way, 0, 1, 0, 1);
            duePlay(NONE, 0, 0, 0, 1, 0, 0);
            x.block(1, INTS, 0);
            duePlay(0, 0, 0, 0, 1, 0, 0);
            x.lend(1, 5, true);
            duePlay(NONE, 0, 0, 0, 1, 0, 0);
        });
        sentence("Terms, PLAYED", "KIND: the WAY is 1, and the handle is not bound to its LANE", () -> {
            stage();
            for (int lane = 0; lane < 4; lane++) x.block(lane, lane, 2);
            for (int bound = 0; bound < 4; bound++) {
                x.bind(bound);
                for (int lane = 0; lane < 4; lane++) duePlay(lane == bound ? 2 : KIND, 0, 1, 0, lane, 0, 2);
            }
        });
        sentence("Terms, PLAYED", "KIND: the handle is bound to none", () -> {
            stage();
            for (int lane = 0; lane < 4; lane++) {
                x.block(lane, lane, 2);
                duePlay(KIND, 0, 1, 0, lane, 0, 2);
                duePlay(KIND, 0, 1, 0, lane, 0, 0);
            }
        });
        sentence("Terms, PLAYED", "KIND: the WAY is 1: in the others the handle does not count", () -> {
            stage();
            x.function(SAME, 0);
            for (int lane = 0; lane < 4; lane++) {
                x.block(lane, lane, 2);
                duePlay(2, 0, 0, 0, lane, 0, 2);
                duePlay(2, 0, 2, 0, lane, 0, 2);
            }
            x.bind(DOUBLES);
            duePlay(2, 0, 0, 0, INTS, 0, 2);
            duePlay(2, 0, 2, 0, INTS, 0, 2);
        });
        sentence("Terms, PLAYED", "KIND: a BLOCK that holds another LANE now", () -> {
            stage();
            x.bind(INTS);
            duePlay(2, 0, 1, 0, 0, 0, 2);
            x.block(0, FLOATS, 2);
            duePlay(KIND, 0, 1, 0, 0, 0, 2);
            x.bind(FLOATS);
            duePlay(2, 0, 1, 0, 0, 0, 2);
        });
    }

    private static void refusedByPlaces() {
        sentence("Terms, PLAYED", "SIZE: n is below 0", () -> {
            stage();
            duePlay(SIZE, 0, 0, 0, 0, 0, -1);
            duePlay(SIZE, 0, 0, 0, 0, 2, -2);
            duePlay(SIZE, 0, 0, 0, 0, 0, MIN);
            duePlay(0, 0, 0, 0, 0, 0, 0);
            duePlay(1, 0, 0, 0, 0, 0, 1);
        });
        sentence("Terms, PLAYED", "INDEX: from is below 0", () -> {
            stage();
            for (int from : new int[] {-1, -2, MIN}) {
                duePlay(INDEX, 0, 0, 0, 0, from, 0);
                duePlay(INDEX, 0, 0, 0, 0, from, 1);
                duePlay(INDEX, 0, 0, 0, 0, from, 3);
            }
            duePlay(INDEX, 0, 0, 0, 0, MIN, MAX);
            duePlay(3, 0, 0, 0, 0, 0, 3);
        });
        sentence("Terms, PLAYED", "or from and n are beyond its end", () -> {
            stage();
            for (int from = 0; from <= 5; from++) {
                duePlay(5 - from, 0, 0, 0, 0, from, 5 - from);
                duePlay(INDEX, 0, 0, 0, 0, from, 6 - from);
            }
            duePlay(INDEX, 0, 0, 0, 0, 6, 0);
        });
        sentence("Terms, PLAYED", "or from and n are beyond its end: too large for an int together", () -> {
            stage();
            int[][] places = {{1, MAX}, {0, MAX}, {MAX, 1}, {MAX, 0}, {MAX, MAX}, {5, MAX - 4}, {MAX - 4, 5}};
            for (int[] p : places) duePlay(INDEX, 0, 0, 0, 0, p[0], p[1]);
        });
        sentence("Terms, PLAYED", "or from and n are beyond its end: of a BLOCK that is empty, and of one that is full", () -> {
            stage();
            x.block(1, INTS, 0);
            duePlay(0, 0, 0, 0, 1, 0, 0);
            duePlay(INDEX, 0, 0, 0, 1, 0, 1);
            duePlay(INDEX, 0, 0, 0, 1, 1, 0);
            x.block(1, INTS, 40);
            duePlay(40, 0, 0, 0, 1, 0, 40);
            duePlay(1, 0, 0, 0, 1, 39, 1);
            duePlay(0, 0, 0, 0, 1, 40, 0);
            duePlay(INDEX, 0, 0, 0, 1, 0, 41);
            duePlay(INDEX, 0, 0, 0, 1, 39, 2);
        });
    }

    private static void refusedInRow() {
        sentence("Terms, PLAYED", "in this row: BAD ahead of all", () -> {
            stage();
            duePlay(BAD, 1, 1, 0, 1, -1, -1);
            duePlay(BAD, 0, 3, 0, 1, -1, -1);
            duePlay(BAD, 0, 2, 0, 1, -1, -1);
            duePlay(BAD, 0, 1, 0, 10, -1, -1);
        });
        sentence("Terms, PLAYED", "in this row: NONE, KIND, SIZE, INDEX", () -> {
            stage();
            duePlay(NONE, 0, 1, 0, 1, -1, -1);
            duePlay(NONE, 0, 0, 0, 1, -1, -1);
            duePlay(NONE, 0, 0, 0, 1, -1, 1);
            duePlay(KIND, 0, 1, 0, 0, -1, -1);
            duePlay(KIND, 0, 1, 0, 0, 0, -1);
            duePlay(KIND, 0, 1, 0, 0, -1, 1);
            duePlay(SIZE, 0, 0, 0, 0, -1, -1);
            duePlay(SIZE, 0, 0, 0, 0, 6, -1);
            x.bind(INTS);
            duePlay(SIZE, 0, 1, 0, 0, -1, -1);
            duePlay(INDEX, 0, 1, 0, 0, -1, 1);
        });
        sentence("Terms, PLAYED", "First the BLOCK: ahead of what the INSTRUMENT has against a SAMPLE", () -> {
            instruments(DRUM);
            row(0, INTS, 1, 2);
            duePlay(NONE, 0, 0, 0, 1, 0, 1);
            duePlay(KIND, 0, 1, 0, 0, 0, 1);
            duePlay(SIZE, 0, 0, 0, 0, 0, -1);
            duePlay(INDEX, 0, 0, 0, 0, 0, 3);
            duePlay(0, 0, 0, 0, 0, 0, 0);
            duePlay(ZERO, 0, 0, 0, 0, 0, 1);
        });
    }

    private static void refusedChangesNothing() {
        sentence("Terms, PLAYED", "then nothing is asked, nothing changed", () -> {
            stage();
            x.play(0, 0, 0, 1, 0, 2);
            x.play(0, 1, 0, 0, 0, 2);
            x.play(0, 0, 0, 0, 0, -1);
            x.play(0, 0, 0, 0, -1, 3);
            x.play(0, 0, 0, 0, 3, 3);
            x.play(0, 3, 0, 0, 0, 2);
            x.play(0, 2, 0, 0, 0, 2);
            due(x.count(4), 0);
            due(x.count(2), 0);
            dueRow(0, 1, 2, 3, 4, 5);
            due(x.of(1, 0), NONE);
            due(x.phase(0, 0), 10);
        });
        sentence("Terms, PLAYED", "then nothing is asked: LEVEL stays", () -> {
            instruments(DRUM);
            x.knob(0, 1, 2);
            x.note(0, 64, true);
            x.block(0, DOUBLES, 2);
            x.play(0, 0, 0, 0, 1, 2);
            x.play(0, 1, 0, 0, 0, 2);
            dueNext(0, 64.0);
        });
    }

    /** Block 0 of a lane: what a GLASS that is OFF gives by its KNOB 0, times a. */
    private static void playTimes(int lane, int knob, int a) {
        x = new CallWays2();
        instruments(GLASS);
        x.knob(0, 0, knob);
        x.function(TIMES, a);
        x.block(0, lane, 1);
        due(x.play(0, 2, 0, 0, 0, 1), 1);
    }

    private static void turned() {
        sentence("Terms, PLAYED", "by the machine's cast: to a short by an int", () -> {
            int[][] wants = {{32767, 1, 32767}, {32768, 1, -32768}, {-32768, 1, -32768}, {-32769, 1, 32767}, {65536, 1, 0}, {MAX, 1, -1}, {MIN, 1, 0},
                {MAX, 2, -1}, {MAX, MAX, -1}, {MIN, 2, 0}, {MIN, MAX, 0}, {MAX, -1, 1}};
            for (int[] w : wants) {
                playTimes(SHORTS, w[0], w[1]);
                due(x.at(0, 0), w[2]);
            }
        });
        sentence("Terms, PLAYED", "by the machine's cast: to an int, no farther than its ends", () -> {
            int[][] wants = {{MAX, 1, MAX}, {MIN, 1, MIN}, {MAX, 2, MAX}, {MIN, 2, MIN}, {MAX, -1, MIN + 1}, {MIN, -1, MAX}, {MIN, MIN, MAX}, {MIN, MAX, MIN}};
            for (int[] w : wants) {
                playTimes(INTS, w[0], w[1]);
                due(x.at(0, 0), w[2]);
            }
        });
        sentence("Terms, PLAYED", "by the machine's cast: to a float, the nearest one", () -> {
            int[] knobs = {16777215, 16777216, 16777217, 16777219, MAX, MIN};
            float[] wants = {16777215f, 16777216f, 16777216f, 16777220f, 2147483648f, -2147483648f};
            for (int i = 0; i < knobs.length; i++) {
                playTimes(FLOATS, knobs[i], 1);
                dueBits(x.at(0, 0), wants[i]);
            }
        });
        sentence("Terms, PLAYED", "by the machine's cast: a double stays", () -> {
            playTimes(DOUBLES, MAX, MAX);
            dueBits(x.at(0, 0), (double) MAX * MAX);
            playTimes(DOUBLES, 16777217, 1);
            dueBits(x.at(0, 0), 16777217.0);
        });
        sentence("Terms, PLAYED", "by the machine's cast: towards 0, on either side of it", () -> {
            for (int lane = SHORTS; lane <= INTS; lane++) {
                x = new CallWays2();
                instruments(BELL);
                x.knob(0, 1, 2);
                x.knob(0, 2, -1);
                x.note(0, 15, true);
                x.block(0, lane, 6);
                x.play(0, 0, 0, 0, 0, 6);
                dueRow(0, 15, -7, 3, -1, 0, 0);
            }
        });
    }

    private static void well() {
        sentence("Terms, PLAYED", "they are there, in their row: n is the answer", () -> {
            stage();
            duePlay(3, 0, 0, 0, 0, 1, 3);
            dueRow(0, 1, -118, -117, -116, 5);
            duePlay(1, 0, 0, 0, 0, 4, 1);
            dueRow(0, 1, -118, -117, -116, -115);
            duePlay(5, 0, 0, 0, 0, 0, 5);
            dueRow(0, -114, -113, -112, -111, -110);
        });
        sentence("Terms, PLAYED", "n is the answer: 0, and nothing is there", () -> {
            stage();
            for (int from = 0; from <= 5; from++) duePlay(0, 0, 0, 0, 0, from, 0);
            dueRow(0, 1, 2, 3, 4, 5);
            due(x.count(2), 6);
            due(x.count(4), 0);
        });
        sentence("Terms, PLAYED", "all at once", () -> {
            instruments(READER);
            row(0, INTS, 1, 2, 3, 4, 5);
            x.table(0, 0, true);
            duePlay(4, 0, 0, 0, 0, 1, 4);
            dueRow(0, 1, 1, 2, 3, 4);
        });
        sentence("Terms, PLAYED", "they are there: in each BLOCK that is LENT, and not in copies", () -> {
            stage();
            x.lend(1, 0, true);
            x.lend(2, 0, false);
            duePlay(2, 0, 0, 0, 1, 0, 2);
            dueRow(0, -118, -117, 3, 4, 5);
            dueRow(2, 1, 2, 3, 4, 5);
        });
    }

    private static void failing() {
        sentence("Terms, PLAYED", "If one FAILS, no further one is asked", () -> {
            for (int own = 0; own < 4; own++) {
                x = new CallWays2();
                instruments(BELL);
                x.knob(0, 1, 1);
                x.knob(0, 2, own);
                x.block(0, DOUBLES, 4);
                duePlay(OWN, 0, 0, 0, 0, 0, 4);
                due(x.count(4), own + 1);
                due(x.phase(0, 0), own + 1);
            }
        });
        sentence("Terms, PLAYED", "If one FAILS: one behind the last does not count", () -> {
            instruments(BELL);
            x.knob(0, 1, 1);
            x.knob(0, 2, 4);
            x.block(0, DOUBLES, 4);
            duePlay(4, 0, 0, 0, 0, 0, 4);
            due(x.count(4), 4);
            due(x.count(3), 0);
        });
        sentence("Terms, PLAYED", "the n places become 0 (SILENCE)", () -> {
            for (int lane = 0; lane < 4; lane++) {
                x = new CallWays2();
                instruments(BELL);
                x.knob(0, 1, 1);
                x.knob(0, 2, 1);
                row(0, lane, 1, 1, 1, 1, 1);
                long one = x.at(0, 0);
                duePlay(OWN, 0, 0, 0, 0, 1, 3);
                due(x.at(0, 0), one);
                for (int i = 1; i < 4; i++) due(x.at(0, i), 0);
                due(x.at(0, 4), one);
            }
        });
        sentence("Terms, PLAYED", "the n places become 0 (SILENCE): up to both ends", () -> {
            instruments(DRUM);
            row(0, INTS, 1, 2, 3);
            duePlay(ZERO, 0, 0, 0, 0, 2, 1);
            dueRow(0, 1, 2, 0);
            duePlay(ZERO, 0, 0, 0, 0, 0, 1);
            dueRow(0, 0, 2, 0);
            row(0, INTS, 1, 2, 3);
            duePlay(ZERO, 0, 0, 0, 0, 0, 3);
            dueRow(0, 0, 0, 0);
        });
        sentence("Terms, PLAYED", "(SILENCE): 0, with no sign", () -> {
            instruments(BELL);
            x.knob(0, 1, 1);
            x.knob(0, 2, 2);
            x.phase(0, 1);
            x.block(0, DOUBLES, 2);
            duePlay(OWN, 0, 0, 0, 0, 0, 2);
            dueDoubles(0, 0.0, 0.0);
        });
        sentence("Terms, PLAYED", "(SILENCE): in each BLOCK that is LENT, a TABLE too, and not in copies", () -> {
            instruments(READER);
            row(0, INTS, 7, 8, 9);
            x.lend(1, 0, false);
            x.lend(2, 0, true);
            x.table(0, 0, true);
            x.phase(0, 2);
            duePlay(INDEX, 0, 0, 0, 0, 0, 2);
            dueRow(2, 0, 0, 9);
            dueRow(1, 7, 8, 9);
            x.phase(0, 0);
            dueNext(0, 0.0);
        });
        sentence("Terms, PLAYED", "and the FAILURE is the answer", () -> {
            instruments(BELL, DRUM, READER, READER, READER, READER);
            row(0, SHORTS, 1);
            row(1, INTS, 1);
            x.table(3, 0, true);
            x.table(4, 1, true);
            x.phase(4, 1);
            x.table(5, 1, true);
            x.phase(5, -1);
            x.block(2, INTS, 1);
            int[] causes = {OWN, ZERO, NONE, KIND, INDEX, SIZE};
            for (int i = 0; i < 6; i++) duePlay(causes[i], i, 0, 0, 2, 0, 1);
        });
    }

    private static void ways() {
        sentence("Terms, WAYS", "0 by members; 1 by the handle: the same SAMPLES, in each LANE", () -> {
            for (int lane = 0; lane < 4; lane++) {
                x = new CallWays2();
                instruments(GLASS);
                x.knob(0, 0, 40000);
                x.note(0, 5, true);
                x.bind(lane);
                x.block(0, lane, 3);
                x.block(1, lane, 3);
                duePlay(3, 0, 0, 0, 0, 0, 3);
                x.phase(0, 0);
                duePlay(3, 0, 1, 0, 1, 0, 3);
                for (int i = 0; i < 3; i++) due(x.at(1, i), x.at(0, i));
            }
        });
        sentence("Terms, WAYS", "ahead of its being turned", () -> {
            instruments(DRUM);
            x.function(TIMES, 2);
            x.knob(0, 1, 2);
            x.note(0, 15, true);
            x.block(0, INTS, 4);
            duePlay(4, 0, 2, 0, 0, 0, 4);
            dueRow(0, 30, 15, 7, 3);
            playTimes(SHORTS, 65536, 3);
            due(x.at(0, 0), 0);
            playTimes(SHORTS, 40000, 2);
            due(x.at(0, 0), 14464);
            playTimes(INTS, MIN, -1);
            due(x.at(0, 0), MAX);
        });
        sentence("Terms, WAYS", "with a (an int, taken as a double)", () -> {
            instruments(GLASS);
            x.function(PLUS, MAX);
            x.function(TIMES, MIN);
            x.knob(0, 0, MAX);
            x.block(0, DOUBLES, 1);
            x.play(0, 2, 0, 0, 0, 1);
            dueDoubles(0, 4294967294.0);
            x.play(0, 2, 1, 0, 0, 1);
            dueDoubles(0, -4611686016279904256.0);
        });
    }

    /** What a BELL of LEVEL 12 gives by a function at an even phase and at an odd one. */
    private static void dueShaped(int kind, int a, double even, double odd) {
        x = new CallWays2();
        instruments(BELL);
        x.knob(0, 1, 1);
        x.knob(0, 2, -1);
        x.note(0, 12, true);
        x.function(kind, a);
        x.block(0, DOUBLES, 2);
        due(x.play(0, 2, 0, 0, 0, 2), 2);
        dueDoubles(0, even, odd);
    }

    private static void functionKinds() {
        sentence("Terms, WAYS", "0 x + a", () -> {
            dueShaped(PLUS, 5, 17.0, -7.0);
            dueShaped(PLUS, 0, 12.0, -12.0);
            dueShaped(PLUS, -12, 0.0, -24.0);
        });
        sentence("Terms, WAYS", "1 x * a", () -> {
            dueShaped(TIMES, 5, 60.0, -60.0);
            dueShaped(TIMES, 0, 0.0, -0.0);
            dueShaped(TIMES, -1, -12.0, 12.0);
        });
        sentence("Terms, WAYS", "2 the lesser of both", () -> {
            dueShaped(LESSER, 11, 11.0, -12.0);
            dueShaped(LESSER, 12, 12.0, -12.0);
            dueShaped(LESSER, 13, 12.0, -12.0);
            dueShaped(LESSER, -12, -12.0, -12.0);
            dueShaped(LESSER, -13, -13.0, -13.0);
            dueShaped(LESSER, MIN, MIN, MIN);
            dueShaped(LESSER, MAX, 12.0, -12.0);
        });
        sentence("Terms, WAYS", "3 the greater one", () -> {
            dueShaped(GREATER, 11, 12.0, 11.0);
            dueShaped(GREATER, 12, 12.0, 12.0);
            dueShaped(GREATER, 13, 13.0, 13.0);
            dueShaped(GREATER, -12, 12.0, -12.0);
            dueShaped(GREATER, -13, 12.0, -12.0);
            dueShaped(GREATER, MIN, 12.0, -12.0);
            dueShaped(GREATER, MAX, MAX, MAX);
        });
        sentence("Terms, WAYS", "4 x", () -> {
            dueShaped(SAME, 12, 12.0, -12.0);
            dueShaped(SAME, 0, 12.0, -12.0);
        });
        sentence("Terms, WAYS", "5 .. else x", () -> {
            dueShaped(UNLESS, 11, 12.0, -12.0);
            dueShaped(UNLESS, 13, 12.0, -12.0);
            dueShaped(UNLESS, 0, 12.0, -12.0);
        });
    }

    private static void functionFailures() {
        sentence("Terms, WAYS", "5 OWN, if x == a", () -> {
            instruments(TONE);
            x.note(0, 1, true);
            x.function(UNLESS, -125);
            row(0, INTS, 1, 1, 1, 1, 1);
            duePlay(3, 0, 2, 0, 0, 0, 3);
            dueRow(0, -128, -127, -126, 1, 1);
            duePlay(OWN, 0, 2, 0, 0, 2, 2);
            dueRow(0, -128, -127, 0, 0, 1);
            due(x.count(4), 4);
            duePlay(2, 0, 2, 0, 0, 0, 2);
            dueRow(0, -124, -123, 0, 0, 1);
        });
        sentence("Terms, WAYS", "5 OWN, if x == a: 0.0 with a sign too", () -> {
            instruments(BELL);
            x.knob(0, 1, 1);
            x.phase(0, 1);
            x.function(UNLESS, 0);
            x.block(0, INTS, 1);
            duePlay(OWN, 0, 2, 0, 0, 0, 1);
        });
        sentence("Terms, WAYS", "5 OWN, if x == a: as doubles, not turned", () -> {
            instruments(DRUM);
            x.knob(0, 1, 2);
            x.note(0, 25, true);
            x.function(UNLESS, 12);
            x.block(0, INTS, 2);
            duePlay(2, 0, 2, 0, 0, 0, 2);
            dueRow(0, 25, 12);
        });
        sentence("Terms, WAYS", "5 OWN: the SAMPLE was asked, and LEVEL is behind it", () -> {
            instruments(DRUM);
            x.knob(0, 1, 2);
            x.note(0, 64, true);
            x.function(UNLESS, 32);
            x.block(0, INTS, 4);
            duePlay(OWN, 0, 2, 0, 0, 0, 4);
            due(x.count(4), 2);
            dueNext(0, 16.0);
        });
        sentence("Terms, WAYS", "5 OWN: a SAMPLE that FAILED does not go through it", () -> {
            instruments(DRUM, READER);
            x.function(UNLESS, 0);
            x.block(0, INTS, 1);
            duePlay(ZERO, 0, 2, 0, 0, 0, 1);
            duePlay(NONE, 1, 2, 0, 0, 0, 1);
        });
    }

    private static void sameInEachWay() {
        sentence("What it is", "becomes silence and a cause, the same in each way", () -> {
            for (int way = 0; way < 3; way++) {
                x = new CallWays2();
                instruments(BELL, DRUM, READER, READER, READER, READER);
                x.function(SAME, 0);
                x.bind(INTS);
                row(0, SHORTS, 1);
                row(1, INTS, 1);
                x.table(3, 0, true);
                x.table(4, 1, true);
                x.phase(4, 1);
                x.phase(5, -1);
                int[] causes = {OWN, ZERO, NONE, KIND, INDEX, SIZE};
                for (int i = 0; i < 6; i++) {
                    row(2, INTS, 5, 5, 5);
                    duePlay(causes[i], i, way, 0, 2, 1, 2);
                    dueRow(2, 5, 0, 0);
                }
                due(x.count(3), 6);
                due(x.count(4), 6);
            }
        });
    }
}
