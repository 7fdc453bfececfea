/** The sentences of "Terms" that name a boundary, but for PLAYED and WAYS. */
public final class TermsBoundaryTest extends Boundaries {
    public static void main(String[] args) {
        blocks();
        bits();
        faintBits();
        newInstruments();
        phases();
        tones();
        glasses();
        drums();
        drumLevels();
        bells();
        bellSigns();
        readers();
        readerRows();
        failures();
        end();
    }

    private static void blocks() {
        sentence("Terms", "BLOCKS 0 .. 9", () -> {
            for (int b = 0; b < 10; b++) due(x.block(b, INTS, b), 1);
            for (int b = 0; b < 10; b++) due(x.of(b, 1), b);
            for (int b : NO_BLOCKS) due(x.block(b, INTS, 1), BAD);
        });
        sentence("Terms", "hold nothing at first", () -> {
            for (int b = 0; b < 10; b++) due(x.of(b, 0), NONE);
            for (int b = 0; b < 10; b++) due(x.of(b, 1), NONE);
        });
        sentence("Terms", "SAMPLES of a LANE: 0 SHORTS, 1 INTS, 2 FLOATS, 3 DOUBLES", () -> {
            for (int lane = 0; lane < 4; lane++) row(lane, lane, 16777217);
            due(x.at(0, 0), 1);
            due(x.at(1, 0), 16777217);
            dueBits(x.at(2, 0), 16777216f);
            dueBits(x.at(3, 0), 16777217.0);
        });
        sentence("Terms", "(0 to 40", () -> {
            x.block(0, INTS, 0);
            due(x.of(0, 1), 0);
            x.block(1, INTS, 40);
            due(x.of(1, 1), 40);
            due(x.put(1, 39, 7), 1);
            due(x.at(1, 39), 7);
            due(x.put(1, 40, 7), INDEX);
        });
        sentence("Terms", "0 at first)", () -> {
            for (int lane = 0; lane < 4; lane++) {
                x.block(lane, lane, 40);
                for (int i = 0; i < 40; i++) due(x.at(lane, i), 0);
            }
        });
        sentence("Terms", "0 at first), made again", () -> {
            row(0, INTS, 5, 6);
            x.block(0, INTS, 2);
            dueRow(0, 0, 0);
        });
        sentence("Terms", "several may hold the same ones (then they are LENT)", () -> {
            row(0, SHORTS, 1, 2);
            for (int b = 1; b < 10; b++) x.lend(b, b - 1, true);
            for (int b = 0; b < 10; b++) {
                x.put(b, 1, 100 + b);
                for (int other = 0; other < 10; other++) due(x.at(other, 1), 100 + b);
            }
        });
    }

    /** That some are no number can't be reached: no call gives one, so that sentence has no test. */
    private static void bits() {
        sentence("Terms", "of a FLOAT its 32 as a whole number with sign", () -> {
            row(0, FLOATS, 0, 1, -1, 3, 16777215, 16777217, MAX, MIN);
            long[] wants = {0L, 0x3f800000L, 0x3f800000L + MIN, 0x40400000L, 0x4b7fffffL, 0x4b800000L, 0x4f000000L, 0x4f000000L + MIN};
            for (int i = 0; i < wants.length; i++) due(x.at(0, i), wants[i]);
        });
        sentence("Terms", "of a DOUBLE its 64", () -> {
            row(0, DOUBLES, 0, 1, -1, 3, MAX, MIN);
            long[] wants = {0L, 0x3ff0000000000000L, 0xbff0000000000000L, 0x4008000000000000L, 0x41dfffffffc00000L, 0xc1e0000000000000L};
            for (int i = 0; i < wants.length; i++) due(x.at(0, i), wants[i]);
        });
        sentence("Terms", "else itself", () -> {
            row(0, SHORTS, -32768, -1, 0, 1, 32767);
            dueRow(0, -32768, -1, 0, 1, 32767);
            row(1, INTS, MIN, -1, 0, 1, MAX);
            dueRow(1, MIN, -1, 0, 1, MAX);
        });
        sentence("Terms", "of a FLOAT its 32; of a DOUBLE its 64: of 0.0 with a sign", () -> {
            instruments(BELL);
            x.knob(0, 1, 1);
            x.phase(0, 1);
            x.block(0, FLOATS, 2);
            x.block(1, DOUBLES, 2);
            x.play(0, 0, 0, 0, 0, 2);
            x.play(0, 0, 0, 1, 0, 2);
            due(x.at(0, 0), MIN);
            due(x.at(0, 1), 0);
            due(x.at(1, 0), Long.MIN_VALUE);
            due(x.at(1, 1), 0);
        });
        sentence("Terms", "of a FLOAT its 32; of a DOUBLE its 64: of the largest that come", () -> {
            instruments(GLASS);
            x.note(0, 1, true);
            x.knob(0, 0, MIN);
            x.function(TIMES, MIN);
            x.function(TIMES, MAX);
            x.block(0, FLOATS, 2);
            x.block(1, DOUBLES, 2);
            for (int f = 0; f < 2; f++) {
                x.phase(0, -255);
                x.play(0, 2, f, 0, f, 1);
                x.phase(0, -255);
                x.play(0, 2, f, 1, f, 1);
            }
            double largest = (-766.0 + MIN) * MIN;
            double smallest = (-766.0 + MIN) * MAX;
            dueBits(x.at(0, 0), (float) largest);
            dueBits(x.at(0, 1), (float) smallest);
            dueDoubles(1, largest, smallest);
        });
    }

    private static void halving(int pitch) {
        instruments(DRUM);
        x.knob(0, 1, 2);
        x.note(0, pitch, true);
    }

    /** A drum that halves each time goes through the smallest numbers that a lane holds, to 0. */
    private static void faintBits() {
        sentence("Terms", "of a FLOAT its 32: too small for one that is whole, and too small for any", () -> {
            long[][] wants = {{125, 0x01000000L}, {126, 0x00800000L}, {127, 0x00400000L}, {148, 2L}, {149, 1L}, {150, 0L}, {151, 0L}};
            for (long[] w : wants) {
                x = new CallWays2();
                halving(1);
                pass(0, (int) w[0]);
                x.block(0, FLOATS, 1);
                due(x.play(0, 0, 0, 0, 0, 1), 1);
                due(x.at(0, 0), w[1]);
            }
        });
        sentence("Terms", "of a DOUBLE its 64: too small for one that is whole, and too small for any", () -> {
            long[][] wants = {{1021, 0x0020000000000000L}, {1022, 0x0010000000000000L}, {1023, 0x0008000000000000L}, {1073, 2L}, {1074, 1L}, {1075, 0L}};
            for (long[] w : wants) {
                x = new CallWays2();
                halving(1);
                pass(0, (int) w[0]);
                due(x.next(0), w[1]);
                x.block(0, DOUBLES, 1);
                due(x.play(0, 0, 0, 0, 0, 1), 1);
                due(x.at(0, 0), w[1]);
            }
        });
        sentence("Terms", "of a DOUBLE its 64: of many digits, all the way down", () -> {
            halving(127);
            x.knob(0, 1, -3);
            double level = 127.0;
            for (int i = 0; i < 60; i++) {
                dueBits(x.next(0), level);
                pass(0, 13);
                for (int k = 0; k < 13; k++) level = level * -333.0 / 1000.0;
            }
        });
    }

    private static void newInstruments() {
        sentence("Terms", "INSTRUMENTS 0 .. 11", () -> {
            for (int i = 0; i < 12; i++) due(x.instrument(TONE), i);
            due(x.note(0, 1, true), 0);
            due(x.note(11, 1, true), 0);
            due(x.note(12, 1, true), BAD);
            due(x.note(-1, 1, true), BAD);
        });
        sentence("Terms", "KNOBS 0 to 3 (ints, 0 at first)", () -> {
            instruments(TONE, GLASS, DRUM, BELL, READER);
            for (int i = 0; i < 5; i++) {
                for (int k = 0; k < 4; k++) due(x.knob(i, k, MIN + k), 0);
                for (int k = 0; k < 4; k++) due(x.knob(i, k, MAX - k), MIN + k);
                for (int k = 0; k < 4; k++) due(x.knob(i, k, 0), MAX - k);
            }
        });
        sentence("Terms", "are ON or OFF (at first)", () -> {
            instruments(TONE, GLASS, DRUM, BELL, READER);
            for (int i = 0; i < 5; i++) due(x.note(i, 1, false), 0);
            x = new CallWays2();
            instruments(TONE, READER);
            x.phase(0, 1);
            dueNext(0, 0.0);
            x.phase(1, -1);
            dueFailure(1, SIZE);
        });
        sentence("Terms", "a PHASE (an int, 0 at first)", () -> {
            instruments(TONE, GLASS, DRUM, BELL, READER);
            for (int i = 0; i < 5; i++) due(x.phase(i, MIN), 0);
            for (int i = 0; i < 5; i++) due(x.phase(i, MAX), MIN);
            for (int i = 0; i < 5; i++) due(x.phase(i, 0), MAX);
        });
        sentence("Terms", "a LEVEL (a double, 0.0)", () -> {
            instruments(DRUM, BELL);
            x.knob(0, 1, 1);
            x.knob(1, 1, 1);
            x.knob(1, 2, -1);
            dueNext(0, 0.0);
            dueNext(1, 0.0);
        });
        sentence("Terms", "a TABLE: a BLOCK's SAMPLES, or none", () -> {
            instruments(READER);
            dueFailure(0, NONE);
            row(0, INTS, 31);
            x.table(0, 0, true);
            dueNext(0, 31.0);
        });
        sentence("Terms", "INSTRUMENTS have KNOBS, a PITCH, a PHASE, a LEVEL, a TABLE: each its own", () -> {
            instruments(GLASS, GLASS, DRUM, DRUM, READER, READER);
            row(0, INTS, 31);
            x.note(0, 9, true);
            x.knob(0, 0, 4);
            x.phase(0, 5);
            x.knob(2, 1, 1);
            x.knob(3, 1, 1);
            x.note(2, 50, true);
            x.table(4, 0, true);
            dueNext(0, 2.0 * (45 - 128) + 4);
            dueNext(1, 0.0);
            dueNext(2, 50.0);
            dueNext(3, 0.0);
            dueNext(4, 31.0);
            dueFailure(5, NONE);
            due(x.phase(1, 0), 0);
            due(x.note(1, 1, true), 0);
        });
    }

    private static void phases() {
        sentence("Terms", "PHASE is 1 more behind it", () -> {
            instruments(TONE, TONE);
            pass(0, 1);
            due(x.phase(0, 7), 1);
            pass(0, 40);
            due(x.phase(0, 0), 47);
            due(x.phase(1, 0), 0);
        });
        sentence("Terms", "PHASE is 1 more behind it: none, none more", () -> {
            instruments(TONE);
            x.block(0, INTS, 1);
            x.phase(0, 9);
            due(x.play(0, 0, 0, 0, 0, 0), 0);
            due(x.phase(0, 0), 9);
        });
        sentence("Terms", "PHASE is 1 more behind it: an int, round about", () -> {
            instruments(TONE);
            x.phase(0, MAX);
            pass(0, 1);
            due(x.phase(0, -1), MIN);
            pass(0, 1);
            due(x.phase(0, 0), 0);
        });
        sentence("Terms", "(also behind one that FAILS)", () -> {
            instruments(DRUM, BELL, READER, READER, READER, READER);
            row(0, SHORTS, 1);
            x.block(1, INTS, 0);
            x.table(3, 0, true);
            x.table(4, 1, true);
            x.phase(5, -1);
            int[] causes = {ZERO, OWN, NONE, KIND, INDEX, SIZE};
            int[] behind = {1, 1, 1, 1, 1, 0};
            x.block(2, INTS, 3);
            for (int i = 0; i < 6; i++) {
                due(x.play(i, 0, 0, 2, 0, 3), causes[i]);
                due(x.phase(i, 0), behind[i]);
            }
        });
        sentence("Terms", "(also behind one that FAILS): by a FUNCTION", () -> {
            instruments(TONE);
            x.function(UNLESS, 0);
            x.block(0, INTS, 3);
            due(x.play(0, 2, 0, 0, 0, 3), OWN);
            due(x.phase(0, 0), 1);
        });
    }

    private static void dueTone(int phase, int pitch, double want) {
        x.note(0, pitch, true);
        x.phase(0, phase);
        dueNext(0, want);
    }

    private static void tones() {
        sentence("Terms", "ON: (PHASE times PITCH) % 256 - 128", () -> {
            instruments(TONE);
            dueTone(0, 127, -128.0);
            dueTone(5, 0, -128.0);
            dueTone(1, 127, -1.0);
            dueTone(127, 1, -1.0);
            dueTone(128, 1, 0.0);
            dueTone(255, 1, 127.0);
            dueTone(256, 1, -128.0);
            dueTone(257, 1, -127.0);
            dueTone(2, 127, 126.0);
            dueTone(3, 127, -3.0);
        });
        sentence("Terms", "% 256 - 128: of a PHASE below 0", () -> {
            instruments(TONE);
            dueTone(-1, 1, -129.0);
            dueTone(-255, 1, -383.0);
            dueTone(-256, 1, -128.0);
            dueTone(-257, 1, -129.0);
        });
        sentence("Terms", "all as ints", () -> {
            instruments(TONE);
            dueTone(MAX, 1, 127.0);
            dueTone(MAX, 2, -130.0);
            dueTone(MAX, 127, 1.0);
            dueTone(MIN, 1, -128.0);
            dueTone(MIN, 2, -128.0);
            dueTone(MIN + 1, 3, -381.0);
            dueTone(1 << 30, 2, -128.0);
            dueTone((1 << 30) + 1, 2, -382.0);
        });
        sentence("Terms", "OFF: 0", () -> {
            instruments(TONE);
            x.phase(0, 1);
            x.note(0, 127, true);
            dueNext(0, -1.0);
            x.note(0, 127, false);
            dueNext(0, 0.0);
        });
        sentence("Terms", "0 TONE: neither KNOBS nor a TABLE count", () -> {
            instruments(TONE);
            for (int k = 0; k < 4; k++) x.knob(0, k, 9);
            row(0, INTS, 1);
            x.table(0, 0, true);
            dueTone(9, 1, -119.0);
        });
    }

    private static void glasses() {
        sentence("Terms", "1 GLASS, a TONE: twice what a TONE gives, and KNOB 0", () -> {
            instruments(GLASS);
            x.knob(0, 0, 5);
            dueTone(0, 1, -251.0);
            dueTone(255, 1, 259.0);
            dueTone(256, 1, -251.0);
            x.knob(0, 0, -5);
            dueTone(0, 1, -261.0);
        });
        sentence("Terms", "1 GLASS, a TONE: OFF", () -> {
            instruments(GLASS);
            dueNext(0, 0.0);
            x.knob(0, 0, -5);
            x.phase(0, 3);
            x.note(0, 3, false);
            dueNext(0, -5.0);
        });
        sentence("Terms", "(as doubles)", () -> {
            instruments(GLASS);
            x.knob(0, 0, MAX);
            dueTone(255, 1, 2147483901.0);
            x.knob(0, 0, MIN);
            dueTone(0, 1, -2147483904.0);
        });
        sentence("Terms", "and KNOB 0: no other one", () -> {
            instruments(GLASS);
            for (int k = 1; k < 4; k++) x.knob(0, k, 9);
            dueTone(128, 1, 0.0);
        });
    }

    private static void drums() {
        sentence("Terms", "2 DRUM: LEVEL; then LEVEL becomes", () -> {
            halving(100);
            x.block(0, DOUBLES, 4);
            x.play(0, 0, 0, 0, 0, 4);
            dueDoubles(0, 100.0, 50.0, 25.0, 12.5);
            dueNext(0, 6.25);
        });
        sentence("Terms", "LEVEL * (1000 / KNOB 1, as ints, then as a double) / 1000.0", () -> {
            int[][] quotients = {{1, 1000}, {2, 500}, {3, 333}, {7, 142}, {334, 2}, {500, 2}, {501, 1}, {999, 1}, {1000, 1}, {1001, 0}, {MAX, 0},
                {-1, -1000}, {-3, -333}, {-1000, -1}, {-1001, 0}, {MIN, 0}};
            halving(100);
            for (int[] q : quotients) {
                x.knob(0, 1, q[0]);
                x.note(0, 100, true);
                pass(0, 1);
                dueNext(0, 100.0 * (double) q[1] / 1000.0);
            }
        });
        sentence("Terms", "LEVEL * .. / 1000.0: in this row", () -> {
            halving(1);
            x.knob(0, 1, 3);
            pass(0, 5);
            double level = 1.0;
            for (int i = 0; i < 5; i++) level = level * 333.0 / 1000.0;
            dueNext(0, level);
        });
        sentence("Terms", "LEVEL below 0 times 0 has a sign", () -> {
            halving(100);
            x.knob(0, 1, -1);
            pass(0, 1);
            dueNext(0, -100.0);
            x.knob(0, 1, 1001);
            pass(0, 1);
            dueNext(0, -0.0);
        });
        sentence("Terms", "ZERO: 1000 by 0", () -> {
            halving(100);
            for (int knob : new int[] {0, 1, -1}) {
                x.knob(0, 1, knob);
                if (knob == 0) dueFailure(0, ZERO);
                else dueNext(0, 100.0);
            }
        });
        sentence("Terms", "ZERO: KNOB 1, and no other", () -> {
            instruments(DRUM);
            for (int k : new int[] {0, 2, 3}) x.knob(0, k, 1);
            dueFailure(0, ZERO);
            for (int k : new int[] {0, 2, 3}) x.knob(0, k, 0);
            x.knob(0, 1, 1);
            dueNext(0, 0.0);
        });
    }

    private static void drumLevels() {
        sentence("Terms", "ZERO leaves it", () -> {
            halving(100);
            pass(0, 1);
            x.knob(0, 1, 0);
            x.block(0, DOUBLES, 4);
            due(x.play(0, 0, 0, 0, 0, 4), ZERO);
            x.knob(0, 1, 2);
            dueNext(0, 50.0);
        });
        sentence("Terms", "note() that is ON sets LEVEL to PITCH", () -> {
            for (int sort : new int[] {DRUM, BELL}) {
                x = new CallWays2();
                instruments(sort);
                x.knob(0, 1, 2);
                x.knob(0, 2, -1);
                for (int pitch : new int[] {127, 1, 0}) {
                    x.note(0, pitch, true);
                    dueNext(0, pitch);
                }
                x.note(0, 80, true);
                pass(0, 2);
                dueNext(0, 20.0);
                x.note(0, 80, true);
                dueNext(0, 80.0);
            }
        });
        sentence("Terms", "note() that is ON sets LEVEL: one that is OFF does not", () -> {
            halving(80);
            x.note(0, 33, false);
            dueNext(0, 80.0);
            pass(0, 1);
            dueNext(0, 40.0);
        });
        sentence("Terms", "note() that is ON sets LEVEL: one that is BAD does not", () -> {
            halving(80);
            x.note(0, 128, true);
            x.note(0, -1, true);
            x.note(1, 5, true);
            dueNext(0, 80.0);
        });
    }

    private static void ringing(int pitch, int own) {
        instruments(BELL);
        x.knob(0, 1, 2);
        x.knob(0, 2, own);
        x.note(0, pitch, true);
    }

    private static void bells() {
        sentence("Terms", "OWN .. if PHASE is KNOB 2", () -> {
            for (int own : new int[] {0, 6, -6, MAX, MIN}) {
                x = new CallWays2();
                ringing(64, own);
                x.phase(0, own);
                dueFailure(0, OWN);
                x.phase(0, own - 1);
                due(x.next(0) != 0, true);
                dueState(0);
                x.phase(0, own + 1);
                due(x.next(0) != 0, true);
                dueState(0);
            }
        });
        sentence("Terms", "OWN .. if PHASE is KNOB 2: on the way", () -> {
            ringing(64, 3);
            x.block(0, DOUBLES, 4);
            due(x.play(0, 0, 0, 0, 0, 3), 3);
            due(x.play(0, 0, 0, 0, 0, 1), OWN);
            due(x.play(0, 0, 0, 0, 0, 4), 4);
        });
        sentence("Terms", "(and LEVEL stays)", () -> {
            ringing(64, 2);
            x.block(0, DOUBLES, 4);
            due(x.play(0, 0, 0, 0, 0, 4), OWN);
            due(x.phase(0, 4), 3);
            dueNext(0, 16.0);
        });
        sentence("Terms", "else as a DRUM", () -> {
            ringing(64, -1);
            x.block(0, DOUBLES, 4);
            due(x.play(0, 0, 0, 0, 0, 4), 4);
            dueDoubles(0, 64.0, -32.0, 16.0, -8.0);
            x.knob(0, 1, 0);
            dueFailure(0, ZERO);
            x.phase(0, 5);
            dueFailure(0, ZERO);
            due(x.play(0, 0, 0, 0, 0, 4), ZERO);
            x.knob(0, 1, 1);
            dueNext(0, 4.0);
        });
        sentence("Terms", "PHASE is KNOB 2: 0 at first", () -> {
            instruments(BELL);
            x.knob(0, 1, 1);
            dueFailure(0, OWN);
            x.knob(0, 2, 1);
            dueNext(0, 0.0);
        });
    }

    private static void bellSigns() {
        sentence("Terms", "-1.0 times that where PHASE is odd", () -> {
            ringing(64, 100);
            int[] odd = {1, 3, -1, -3, MAX, MIN + 1};
            int[] even = {0, 2, -2, -4, MAX - 1, MIN};
            for (int phase : odd) {
                x.phase(0, phase);
                dueNext(0, -64.0);
            }
            for (int phase : even) {
                x.phase(0, phase);
                dueNext(0, 64.0);
            }
        });
        sentence("Terms", "-1.0 times that: of 0.0", () -> {
            ringing(0, 100);
            x.phase(0, 1);
            dueNext(0, -0.0);
            x.phase(0, 2);
            dueNext(0, 0.0);
        });
        sentence("Terms", "-1.0 times that: what it gives, not its LEVEL", () -> {
            ringing(64, 100);
            x.phase(0, 1);
            pass(0, 1);
            dueNext(0, 32.0);
        });
    }

    private static void reading(int... samples) {
        instruments(READER);
        row(0, INTS, samples);
        x.table(0, 0, true);
        x.note(0, 0, true);
    }

    private static void readers() {
        sentence("Terms", "4 READER: SAMPLE PHASE + KNOB 0", () -> {
            reading(10, 20, 30);
            x.block(1, INTS, 3);
            due(x.play(0, 0, 0, 1, 0, 3), 3);
            dueRow(1, 10, 20, 30);
            x.knob(0, 0, -1);
            x.phase(0, 2);
            dueNext(0, 20.0);
            for (int k = 0; k < 4; k++) x.knob(0, k, k == 0 ? 0 : 1);
            dueNext(0, 30.0);
        });
        sentence("Terms", "INDEX: no such SAMPLE", () -> {
            reading(10, 20, 30);
            int[][] sums = {{0, -1}, {-1, 0}, {3, 0}, {0, 3}, {MIN, 0}, {MAX, 0}, {2, 1}, {-3, 2}};
            for (int[] s : sums) {
                x.phase(0, s[0]);
                x.knob(0, 0, s[1]);
                dueFailure(0, INDEX);
            }
            x.knob(0, 0, 0);
            x.phase(0, 0);
            dueNext(0, 10.0);
            x.phase(0, 2);
            dueNext(0, 30.0);
        });
        sentence("Terms", "INDEX: of a TABLE that is empty, and of one that is full", () -> {
            reading();
            dueFailure(0, INDEX);
            x.block(1, INTS, 40);
            x.put(1, 39, 5);
            x.table(0, 1, true);
            x.phase(0, 39);
            dueNext(0, 5.0);
            x.phase(0, 40);
            dueFailure(0, INDEX);
        });
        sentence("Terms", "PHASE + KNOB 0 (as ints)", () -> {
            reading(10, 20, 30);
            x.phase(0, MIN);
            x.knob(0, 0, MIN);
            dueNext(0, 10.0);
            x.phase(0, MAX);
            x.knob(0, 0, MIN + 1);
            dueNext(0, 10.0);
            x.knob(0, 0, MIN + 3);
            dueNext(0, 30.0);
            x.knob(0, 0, MAX);
            dueFailure(0, INDEX);
        });
        sentence("Terms", "of its TABLE, taken for INTS", () -> {
            reading(MIN, MAX, -1);
            for (int i = 0; i < 3; i++) {
                x.phase(0, i);
                dueNext(0, i == 0 ? MIN : i == 1 ? MAX : -1);
            }
        });
        sentence("Terms", "KIND: a TABLE of another LANE", () -> {
            reading(1);
            for (int lane = 0; lane < 4; lane++) {
                row(1, lane, 6);
                x.table(0, 1, true);
                if (lane == INTS) dueNext(0, 6.0);
                else dueFailure(0, KIND);
            }
        });
        sentence("Terms", "NONE: no TABLE", () -> {
            reading(1);
            dueNext(0, 1.0);
            x.table(0, -1, true);
            dueFailure(0, NONE);
        });
    }

    private static void readerRows() {
        sentence("Terms", "SIZE, if that is below 0", () -> {
            reading(10, 20, 30);
            x.note(0, 0, false);
            for (int phase : new int[] {-1, -7, -9, -15, MIN + 1, MIN + 7}) {
                x.phase(0, phase);
                x.knob(0, 0, -phase);
                dueFailure(0, SIZE);
            }
        });
        sentence("Terms", "a row of PHASE % 8 ints: none, and up to 7", () -> {
            reading(10, 20, 30);
            x.note(0, 0, false);
            for (int phase : new int[] {0, 1, 7, 8, 9, -8, -16, MIN, MAX}) {
                x.phase(0, phase);
                x.knob(0, 0, -phase);
                dueNext(0, 10.0);
            }
        });
        sentence("Terms", "a row of PHASE % 8 ints: KNOB 0 does not count there", () -> {
            reading(10, 20, 30);
            x.note(0, 0, false);
            x.knob(0, 0, -1);
            dueFailure(0, INDEX);
            x.phase(0, 1);
            dueNext(0, 10.0);
            x.knob(0, 0, 1);
            x.phase(0, -1);
            dueFailure(0, SIZE);
        });
        sentence("Terms", "when it is OFF", () -> {
            reading(10, 20, 30);
            x.knob(0, 0, 1);
            x.phase(0, -1);
            dueNext(0, 10.0);
            x.note(0, 0, false);
            dueFailure(0, SIZE);
            x.note(0, 0, true);
            dueNext(0, 10.0);
        });
        sentence("Terms", "is made ahead of that", () -> {
            reading(1);
            row(1, SHORTS, 1);
            x.phase(0, -1);
            int[] tables = {-1, 1, 0};
            int[] causes = {NONE, KIND, INDEX};
            for (int i = 0; i < 3; i++) {
                x.table(0, tables[i], true);
                x.note(0, 0, true);
                dueFailure(0, causes[i]);
                x.note(0, 0, false);
                dueFailure(0, SIZE);
            }
        });
    }

    private static void failures() {
        sentence("Terms", "the first that happens as told: OWN; ZERO", () -> {
            instruments(BELL);
            dueFailure(0, OWN);
            x.phase(0, 1);
            dueFailure(0, ZERO);
            x.knob(0, 1, 1);
            dueNext(0, -0.0);
        });
        sentence("Terms", "the first that happens as told: KIND; INDEX", () -> {
            instruments(READER);
            x.phase(0, 5);
            row(0, FLOATS, 1);
            x.table(0, 0, true);
            dueFailure(0, KIND);
            row(0, INTS, 1);
            x.table(0, 0, true);
            dueFailure(0, INDEX);
        });
        sentence("Terms", "the first that happens as told: NONE; INDEX", () -> {
            instruments(READER);
            x.phase(0, 5);
            dueFailure(0, NONE);
            x.knob(0, 0, MAX);
            dueFailure(0, NONE);
        });
    }
}
