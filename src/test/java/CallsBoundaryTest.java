/** The sentences of the promises that name a boundary, but for promise 16, play. */
public final class CallsBoundaryTest extends Boundaries {
    public static void main(String[] args) {
        newObject();
        instrument();
        note();
        knob();
        phase();
        table();
        tableHeld();
        block();
        blockRefused();
        lend();
        isLent();
        of();
        at();
        put();
        putCasts();
        copy();
        copyRefused();
        bind();
        function();
        agree();
        agreeFailures();
        agreeStays();
        find();
        next();
        state();
        stateStays();
        count();
        lastCall();
        end();
    }

    private static void newObject() {
        sentence("Promise 1", "No INSTRUMENTS", () -> {
            due(x.count(0), 0);
            due(x.note(0, 0, true), BAD);
            dueFailure(0, BAD);
            due(x.instrument(TONE), 0);
            due(x.note(0, 0, true), 0);
        });
        sentence("Promise 1", "no FUNCTIONS", () -> {
            due(x.count(1), 0);
            due(x.find(0, 0), -1);
            due(x.function(SAME, 0), 0);
            due(x.find(0, 0), 0);
        });
        sentence("Promise 1", "BLOCKS hold nothing", () -> {
            for (int b = 0; b < 10; b++) {
                due(x.of(b, 1), NONE);
                due(x.isLent(b, 0), true);
            }
        });
        sentence("Promise 1", "the handle is bound to none", () -> {
            instruments(TONE);
            for (int lane = 0; lane < 4; lane++) {
                x.block(0, lane, 0);
                due(x.play(0, 1, 0, 0, 0, 0), KIND);
            }
            due(x.bind(INTS), -1);
        });
        sentence("Promise 1", "A new object: not what another one has", () -> {
            instruments(TONE);
            x.function(SAME, 0);
            x.bind(INTS);
            row(0, INTS, 1);
            x.play(0, 0, 0, 0, 0, 1);
            x.phase(9, 0);
            x = new CallWays2();
            for (int what = 0; what < 5; what++) due(x.count(what), 0);
            due(x.of(0, 0), NONE);
            dueState(0);
            due(x.bind(INTS), -1);
        });
    }

    private static void instrument() {
        sentence("Promise 2", "An INSTRUMENT of a SORT: its number", () -> {
            for (int i = 0; i < 12; i++) due(x.instrument(i % 5), i);
        });
        sentence("Promise 2", "BAD", () -> {
            for (int sort : new int[] {-1, 5, MIN, MAX}) due(x.instrument(sort), BAD);
            due(x.count(0), 0);
            due(x.instrument(0), 0);
            due(x.instrument(4), 1);
        });
        sentence("Promise 2", "FULL", () -> {
            for (int i = 0; i < 11; i++) x.instrument(TONE);
            due(x.instrument(GLASS), 11);
            due(x.instrument(GLASS), FULL);
            due(x.instrument(TONE), FULL);
            due(x.count(0), 12);
        });
        sentence("Promise 2", "BAD; FULL: in this row", () -> {
            for (int i = 0; i < 12; i++) x.instrument(TONE);
            due(x.instrument(5), BAD);
            due(x.instrument(-1), BAD);
            due(x.instrument(4), FULL);
        });
        sentence("Promise 2", "FULL: those that are there stay", () -> {
            for (int i = 0; i < 12; i++) x.instrument(TONE);
            x.note(11, 1, true);
            x.phase(11, 3);
            x.note(0, 1, true);
            x.instrument(DRUM);
            dueNext(11, -125.0);
            dueNext(0, -128.0);
        });
        sentence("Promise 2", "of a SORT: 0 to 4, each as it is told", () -> {
            instruments(TONE, GLASS, DRUM, BELL, READER);
            row(0, INTS, 77);
            for (int i = 0; i < 5; i++) {
                x.note(i, 100, true);
                x.knob(i, 1, 1);
                x.knob(i, 2, -1);
                x.table(i, 0, true);
            }
            double[] wants = {-128.0, -256.0, 100.0, 100.0, 77.0};
            for (int i = 0; i < 5; i++) dueNext(i, wants[i]);
            pass(2, 1);
            pass(3, 1);
            dueNext(2, 100.0);
            dueNext(3, -100.0);
        });
    }

    private static void note() {
        sentence("Promise 3", "whether it was ON (1, 0)", () -> {
            instruments(TONE, TONE);
            due(x.note(0, 1, false), 0);
            due(x.note(0, 1, true), 0);
            due(x.note(0, 1, true), 1);
            due(x.note(0, 1, false), 1);
            due(x.note(0, 1, false), 0);
            due(x.note(1, 1, true), 0);
        });
        sentence("Promise 3", "whether it was ON: of each SORT", () -> {
            instruments(TONE, GLASS, DRUM, BELL, READER);
            for (int i = 0; i < 5; i++) {
                due(x.note(i, 1, true), 0);
                due(x.note(i, 1, true), 1);
                due(x.note(i, 1, false), 1);
                due(x.note(i, 1, false), 0);
            }
        });
        sentence("Promise 3", "PITCH: what it gives, by the latest one", () -> {
            instruments(TONE);
            x.phase(0, 1);
            for (int pitch : new int[] {0, 1, 127, 64}) {
                x.note(0, pitch, true);
                dueNext(0, pitch - 128.0);
            }
        });
        sentence("Promise 3", "BAD: no such INSTRUMENT", () -> {
            instruments(TONE, TONE);
            for (int i : new int[] {-1, 2, 12, MIN, MAX}) due(x.note(i, 1, true), BAD);
            due(x.note(0, 1, true), 0);
            due(x.note(1, 1, true), 0);
        });
        sentence("Promise 3", "BAD: PITCH is not 0 to 127", () -> {
            instruments(TONE);
            for (int pitch : new int[] {-1, 128, MIN, MAX}) {
                due(x.note(0, pitch, true), BAD);
                due(x.note(0, pitch, false), BAD);
            }
            due(x.note(0, 0, false), 0);
            due(x.note(0, 127, true), 0);
        });
        sentence("Promise 3", "BAD: PITCH and ON stay", () -> {
            instruments(TONE);
            x.phase(0, 1);
            x.note(0, 5, true);
            x.note(0, 128, false);
            x.note(0, -1, false);
            dueNext(0, -123.0);
            due(x.note(0, 5, false), 1);
            x.note(0, 128, true);
            due(x.note(0, 5, false), 0);
        });
    }

    private static void knob() {
        sentence("Promise 4", "A KNOB becomes v: what it was", () -> {
            instruments(TONE, TONE);
            int[] values = {1, -1, MAX, MIN, 0};
            for (int k = 0; k < 4; k++) {
                int was = 0;
                for (int v : values) {
                    due(x.knob(0, k, v), was);
                    was = v;
                }
            }
            for (int k = 0; k < 4; k++) due(x.knob(1, k, 0), 0);
        });
        sentence("Promise 4", "0 when it is BAD: no such INSTRUMENT", () -> {
            instruments(TONE, TONE);
            for (int i : new int[] {-1, 2, 12, MIN, MAX}) {
                x.knob(0, 0, 5);
                due(x.knob(i, 0, 1), 0);
                dueState(BAD);
            }
            due(x.knob(1, 0, 1), 0);
            dueState(0);
        });
        sentence("Promise 4", "0 when it is BAD: no such KNOB", () -> {
            instruments(TONE);
            for (int k = 0; k < 4; k++) x.knob(0, k, 5);
            for (int k : new int[] {-1, 4, MIN, MAX}) {
                x.knob(0, 0, 5);
                due(x.knob(0, k, 1), 0);
                dueState(BAD);
            }
            for (int k = 0; k < 4; k++) due(x.knob(0, k, 0), 5);
        });
        sentence("Promise 4", "state() tells: what it was below 0 is no cause", () -> {
            instruments(TONE);
            for (int v : new int[] {BAD, STORE, MIN, 0}) {
                x.knob(0, 0, v);
                x.knob(9, 0, 0);
                due(x.knob(0, 0, 0), v);
                dueState(0);
            }
        });
    }

    private static void phase() {
        sentence("Promise 5", "The PHASE becomes v: what it was", () -> {
            instruments(TONE, TONE);
            int was = 0;
            for (int v : new int[] {1, -1, MAX, MIN, 0}) {
                due(x.phase(0, v), was);
                was = v;
            }
            due(x.phase(1, 0), 0);
        });
        sentence("Promise 5", "0 when it is BAD", () -> {
            instruments(TONE, TONE);
            for (int i : new int[] {-1, 2, 12, MIN, MAX}) {
                x.phase(0, 5);
                dueState(0);
                due(x.phase(i, 1), 0);
                dueState(BAD);
            }
            due(x.phase(0, 0), 5);
            due(x.phase(1, 0), 0);
            dueState(0);
        });
        sentence("Promise 5", "what it was: below 0 is no cause", () -> {
            instruments(TONE);
            for (int v : new int[] {BAD, STORE, MIN, 0}) {
                x.phase(0, v);
                x.phase(9, 0);
                due(x.phase(0, 0), v);
                dueState(0);
            }
        });
    }

    private static void table() {
        sentence("Promise 6", "BAD: no such INSTRUMENT", () -> {
            instruments(READER, READER);
            row(0, INTS, 5);
            for (int i : new int[] {-1, 2, 12, MIN, MAX}) {
                due(x.table(i, 0, true), BAD);
                due(x.table(i, -1, false), BAD);
            }
            due(x.table(0, 0, true), 1);
            due(x.table(1, 0, true), 1);
        });
        sentence("Promise 6", "BAD: no such BLOCK", () -> {
            instruments(READER);
            row(0, INTS, 5);
            row(9, INTS, 6);
            due(x.table(0, 9, true), 1);
            for (int b : new int[] {-2, 10, MIN, MAX}) {
                due(x.table(0, b, true), BAD);
                due(x.table(0, b, false), BAD);
            }
            dueNext(0, 6.0);
            due(x.table(0, 0, true), 1);
            dueNext(0, 5.0);
        });
        sentence("Promise 6", "(-1: none)", () -> {
            instruments(READER);
            row(0, INTS, 5);
            for (int lent = 0; lent < 2; lent++) {
                x.table(0, 0, true);
                dueNext(0, 5.0);
                due(x.table(0, -1, lent == 1), 1);
                dueFailure(0, NONE);
            }
        });
        sentence("Promise 6", "what a BLOCK holds: nothing", () -> {
            instruments(READER);
            row(0, INTS, 5);
            for (int lent = 0; lent < 2; lent++) {
                x.table(0, 0, true);
                due(x.table(0, 1, lent == 1), 1);
                dueFailure(0, NONE);
            }
            row(1, INTS, 6);
            dueFailure(0, NONE);
        });
        sentence("Promise 6", "what a BLOCK holds: SAMPLES, but none of them", () -> {
            instruments(READER);
            x.block(0, INTS, 0);
            for (int lent = 0; lent < 2; lent++) {
                due(x.table(0, 0, lent == 1), 1);
                dueFailure(0, INDEX);
            }
        });
    }

    private static void tableHeld() {
        sentence("Promise 6", "LENT", () -> {
            instruments(READER);
            row(0, INTS, 5);
            x.table(0, 0, true);
            x.put(0, 0, 6);
            dueNext(0, 6.0);
            x.lend(1, 0, true);
            x.block(0, DOUBLES, 0);
            dueNext(0, 6.0);
            x.put(1, 0, 7);
            dueNext(0, 7.0);
        });
        sentence("Promise 6", "or a copy of it", () -> {
            instruments(READER);
            row(0, INTS, 5, 8);
            x.table(0, 0, false);
            x.put(0, 0, 6);
            dueNext(0, 5.0);
            x.phase(0, 1);
            dueNext(0, 8.0);
            x.phase(0, 2);
            dueFailure(0, INDEX);
            row(0, FLOATS, 1);
            x.table(0, 0, false);
            dueFailure(0, KIND);
        });
    }

    private static void block() {
        sentence("Promise 7", "A BLOCK holds n new SAMPLES of a LANE: 1", () -> {
            for (int lane = 0; lane < 4; lane++) {
                for (int n : new int[] {0, 1, 40}) {
                    due(x.block(lane, lane, n), 1);
                    due(x.of(lane, 0), lane);
                    due(x.of(lane, 1), n);
                }
            }
        });
        sentence("Promise 7", "new SAMPLES: those that are LENT stay", () -> {
            row(0, INTS, 5);
            x.lend(1, 0, true);
            x.block(0, INTS, 1);
            dueRow(0, 0);
            dueRow(1, 5);
            due(x.isLent(0, 1), false);
        });
    }

    private static void blockRefused() {
        sentence("Promise 7", "BAD: BLOCK", () -> {
            for (int b : NO_BLOCKS) due(x.block(b, INTS, 1), BAD);
            due(x.block(0, INTS, 1), 1);
            due(x.block(9, INTS, 1), 1);
        });
        sentence("Promise 7", "BAD: LANE", () -> {
            for (int lane : NO_LANES) due(x.block(0, lane, 1), BAD);
            due(x.block(0, 0, 1), 1);
            due(x.block(0, 3, 1), 1);
        });
        sentence("Promise 7", "BAD: n above 40", () -> {
            due(x.block(0, INTS, 41), BAD);
            due(x.block(0, INTS, MAX), BAD);
            due(x.of(0, 1), NONE);
            due(x.block(0, INTS, 40), 1);
        });
        sentence("Promise 7", "SIZE", () -> {
            due(x.block(0, INTS, -1), SIZE);
            due(x.block(0, INTS, MIN), SIZE);
            due(x.of(0, 1), NONE);
            due(x.block(0, INTS, 0), 1);
        });
        sentence("Promise 7", "BAD; SIZE: in this row", () -> {
            due(x.block(10, INTS, -1), BAD);
            due(x.block(-1, INTS, -1), BAD);
            due(x.block(0, 4, -1), BAD);
            due(x.block(0, -1, -1), BAD);
        });
        sentence("Promise 7", "BAD; SIZE: a BLOCK holds what it held", () -> {
            row(0, SHORTS, 5, 6);
            x.block(0, INTS, 41);
            x.block(0, 4, 1);
            x.block(0, INTS, -1);
            due(x.of(0, 0), SHORTS);
            dueRow(0, 5, 6);
        });
    }

    private static void lend() {
        sentence("Promise 8", "A BLOCK holds what another one does, LENT", () -> {
            row(0, INTS, 5);
            due(x.lend(9, 0, true), 1);
            due(x.isLent(9, 0), true);
            x.put(9, 0, 6);
            dueRow(0, 6);
        });
        sentence("Promise 8", "or a copy of it: 1", () -> {
            row(0, INTS, 5, 7);
            due(x.lend(9, 0, false), 1);
            due(x.isLent(9, 0), false);
            due(x.of(9, 0), INTS);
            x.put(9, 0, 6);
            dueRow(0, 5, 7);
            dueRow(9, 6, 7);
        });
        sentence("Promise 8", "or a copy of it: of each LANE, of none, of all 40", () -> {
            for (int lane = 0; lane < 4; lane++) {
                x.block(0, lane, 0);
                due(x.lend(1, 0, false), 1);
                due(x.of(1, 0), lane);
                due(x.of(1, 1), 0);
                x.block(0, lane, 40);
                x.put(0, 39, -3);
                due(x.lend(1, 0, false), 1);
                due(x.of(1, 1), 40);
                due(x.at(1, 39), x.at(0, 39));
            }
        });
        sentence("Promise 8", "BAD", () -> {
            row(0, INTS, 5);
            row(9, INTS, 6);
            for (int b : NO_BLOCKS) {
                due(x.lend(b, 0, true), BAD);
                due(x.lend(b, 0, false), BAD);
                due(x.lend(0, b, true), BAD);
                due(x.lend(0, b, false), BAD);
            }
            dueRow(0, 5);
            due(x.lend(0, 9, true), 1);
            dueRow(0, 6);
        });
        sentence("Promise 8", "BAD; NONE: in this row", () -> {
            due(x.lend(10, 0, false), BAD);
            due(x.lend(-1, 0, false), BAD);
            due(x.lend(0, 0, false), NONE);
        });
        sentence("Promise 8", "NONE: it holds nothing, and a copy is asked", () -> {
            row(0, INTS, 5);
            due(x.lend(0, 1, false), NONE);
            dueRow(0, 5);
            due(x.lend(1, 0, false), 1);
            due(x.lend(0, 2, true), 1);
            due(x.of(0, 1), NONE);
            due(x.isLent(0, 2), true);
        });
        sentence("Promise 8", "a copy of it: of its own", () -> {
            row(0, INTS, 5);
            x.lend(1, 0, true);
            due(x.lend(0, 0, true), 1);
            due(x.isLent(0, 1), true);
            due(x.lend(0, 0, false), 1);
            due(x.isLent(0, 1), false);
            dueRow(0, 5);
        });
    }

    private static void isLent() {
        sentence("Promise 9", "Whether two BLOCKS hold the same SAMPLES (not copies)", () -> {
            row(0, INTS, 5);
            x.lend(1, 0, true);
            x.lend(2, 0, false);
            row(3, INTS, 5);
            x.lend(4, 1, true);
            due(x.isLent(0, 1), true);
            due(x.isLent(1, 0), true);
            due(x.isLent(0, 4), true);
            due(x.isLent(0, 0), true);
            due(x.isLent(0, 2), false);
            due(x.isLent(2, 0), false);
            due(x.isLent(0, 3), false);
        });
        sentence("Promise 9", "the same SAMPLES (not copies): of none", () -> {
            x.block(0, INTS, 0);
            x.block(1, INTS, 0);
            due(x.isLent(0, 1), false);
            x.lend(1, 0, false);
            due(x.isLent(0, 1), false);
            x.lend(1, 0, true);
            due(x.isLent(0, 1), true);
        });
        sentence("Promise 9", "or both nothing", () -> {
            due(x.isLent(0, 9), true);
            due(x.isLent(3, 3), true);
            x.block(0, INTS, 0);
            due(x.isLent(0, 9), false);
            due(x.isLent(9, 0), false);
        });
        sentence("Promise 9", "False: also BAD", () -> {
            for (int b : NO_BLOCKS) {
                due(x.isLent(b, 0), false);
                due(x.isLent(0, b), false);
                due(x.isLent(b, b), false);
            }
        });
    }

    private static void of() {
        sentence("Promise 10", "The LANE of what a BLOCK holds (what = 0), how many SAMPLES (1)", () -> {
            for (int lane = 0; lane < 4; lane++) x.block(9 - lane, lane, 10 * lane + 10);
            for (int lane = 0; lane < 4; lane++) {
                due(x.of(9 - lane, 0), lane);
                due(x.of(9 - lane, 1), 10 * lane + 10);
            }
        });
        sentence("Promise 10", "BAD: no such BLOCK", () -> {
            x.block(0, FLOATS, 3);
            x.block(9, FLOATS, 4);
            for (int b : NO_BLOCKS) {
                due(x.of(b, 0), BAD);
                due(x.of(b, 1), BAD);
            }
            due(x.of(0, 1), 3);
            due(x.of(9, 1), 4);
        });
        sentence("Promise 10", "BAD: what is not 0, 1", () -> {
            x.block(0, FLOATS, 3);
            for (int what : new int[] {-1, 2, MIN, MAX}) due(x.of(0, what), BAD);
        });
        sentence("Promise 10", "BAD; NONE: in this row", () -> {
            due(x.of(0, 2), BAD);
            due(x.of(0, -1), BAD);
            due(x.of(0, 0), NONE);
            due(x.of(0, 1), NONE);
            x.block(0, SHORTS, 0);
            due(x.of(0, 0), SHORTS);
            due(x.of(0, 1), 0);
        });
    }

    private static void dueAt(int state, long want, int block, int i) {
        // Another state ahead of it, so that it can't have stayed.
        if (state == 0) x.knob(-1, 0, 0);
        else x.put(5, 0, 0);
        due(x.at(block, i), want);
        dueState(state);
    }

    private static void at() {
        sentence("Promise 11", "0, STATE: BAD", () -> {
            row(5, INTS, 1);
            row(0, INTS, 5);
            row(9, INTS, 6);
            for (int b : NO_BLOCKS) dueAt(BAD, 0, b, 0);
            dueAt(0, 5, 0, 0);
            dueAt(0, 6, 9, 0);
        });
        sentence("Promise 11", "NONE", () -> {
            row(5, INTS, 1);
            dueAt(NONE, 0, 0, 0);
            x.block(0, INTS, 1);
            dueAt(0, 0, 0, 0);
        });
        sentence("Promise 11", "INDEX", () -> {
            row(5, INTS, 1);
            for (int lane = 0; lane < 4; lane++) {
                row(0, lane, 0, 0, 0);
                for (int i : new int[] {-1, 3, MIN, MAX}) dueAt(INDEX, 0, 0, i);
                dueAt(0, 0, 0, 0);
                dueAt(0, 0, 0, 2);
            }
            row(0, INTS);
            dueAt(INDEX, 0, 0, 0);
            x.block(0, INTS, 40);
            dueAt(0, 0, 0, 39);
            dueAt(INDEX, 0, 0, 40);
        });
        sentence("Promise 11", "BAD; NONE; INDEX: in this row", () -> {
            row(5, INTS, 1);
            dueAt(BAD, 0, 10, -1);
            dueAt(NONE, 0, 0, -1);
            dueAt(NONE, 0, 0, 40);
        });
        sentence("Promise 11", "BITS below 0 are no cause", () -> {
            row(5, INTS, -1);
            dueAt(0, -1, 5, 0);
            row(5, SHORTS, STORE);
            dueAt(0, STORE, 5, 0);
        });
    }

    private static void duePut(int answer, int block, int i, int v) {
        if (answer == 1) x.knob(-1, 0, 0);
        else x.at(5, 0);
        due(x.put(block, i, v), answer);
        dueState(Math.min(answer, 0));
    }

    private static void put() {
        sentence("Promise 12", "BAD", () -> {
            row(5, INTS, 1);
            row(0, INTS, 5);
            row(9, INTS, 6);
            for (int b : NO_BLOCKS) duePut(BAD, b, 0, 7);
            dueRow(0, 5);
            dueRow(9, 6);
            duePut(1, 0, 0, 7);
            duePut(1, 9, 0, 8);
            dueRow(0, 7);
            dueRow(9, 8);
        });
        sentence("Promise 12", "NONE", () -> {
            row(5, INTS, 1);
            duePut(NONE, 0, 0, 7);
            due(x.of(0, 0), NONE);
            x.block(0, INTS, 1);
            duePut(1, 0, 0, 7);
        });
        sentence("Promise 12", "INDEX", () -> {
            row(5, INTS, 1);
            row(0, INTS, 1, 2, 3);
            for (int i : new int[] {-1, 3, MIN, MAX}) duePut(INDEX, 0, i, 7);
            dueRow(0, 1, 2, 3);
            duePut(1, 0, 0, 7);
            duePut(1, 0, 2, 8);
            dueRow(0, 7, 2, 8);
            row(0, INTS);
            duePut(INDEX, 0, 0, 7);
            x.block(0, INTS, 40);
            duePut(1, 0, 39, 7);
            duePut(INDEX, 0, 40, 7);
        });
        sentence("Promise 12", "BAD; NONE; INDEX: in this row", () -> {
            row(5, INTS, 1);
            duePut(BAD, 10, -1, 7);
            duePut(NONE, 0, -1, 7);
            duePut(NONE, 0, 40, 7);
        });
        sentence("Promise 12", "A SAMPLE becomes v: 1, whatever v is", () -> {
            row(5, INTS, 1);
            for (int v : new int[] {BAD, STORE, 0, MIN, MAX}) duePut(1, 5, 0, v);
        });
    }

    private static void putCasts() {
        sentence("Promise 12", "cast to the LANE: SHORTS", () -> {
            row(0, SHORTS, 32767, 32768, -32768, -32769, 65535, 65536, MAX, MIN);
            dueRow(0, 32767, -32768, -32768, 32767, -1, 0, -1, 0);
        });
        sentence("Promise 12", "cast to the LANE: INTS", () -> {
            row(0, INTS, MAX, MIN, 32768, -32769);
            dueRow(0, MAX, MIN, 32768, -32769);
        });
        sentence("Promise 12", "cast to the LANE: FLOATS", () -> {
            int[] given = {16777216, 16777217, 16777218, 16777219, -16777217, MAX, MIN, MAX - 64, MAX - 63};
            row(0, FLOATS, given);
            for (int i = 0; i < given.length; i++) dueBits(x.at(0, i), (float) given[i]);
        });
        sentence("Promise 12", "cast to the LANE: DOUBLES", () -> {
            row(0, DOUBLES, MAX, MIN, 16777217, 0, -1);
            dueDoubles(0, 2147483647.0, -2147483648.0, 16777217.0, 0.0, -1.0);
        });
    }

    private static void dueCopy(int answer, int from, int i, int to, int j, int n) {
        if (answer == 1) x.knob(-1, 0, 0);
        else x.at(5, 0);
        due(x.copy(from, i, to, j, n), answer);
        dueState(Math.min(answer, 0));
    }

    private static void copyStage() {
        row(5, INTS, 1);
        row(0, INTS, 1, 2, 3, 4);
        row(1, INTS, 11, 12, 13);
        row(2, SHORTS, 21, 22, 23, 24);
    }

    private static void copy() {
        sentence("Promise 13", "n SAMPLES of a BLOCK are copied by the machine to another one", () -> {
            copyStage();
            dueCopy(1, 0, 1, 1, 0, 2);
            dueRow(1, 2, 3, 13);
            dueRow(0, 1, 2, 3, 4);
            due(x.isLent(0, 1), false);
        });
        sentence("Promise 13", "are copied: in each LANE, with all their BITS", () -> {
            row(5, INTS, 1);
            for (int lane = 0; lane < 4; lane++) {
                row(0, lane, MAX, MIN, -1);
                x.block(1, lane, 3);
                dueCopy(1, 0, 0, 1, 0, 3);
                for (int i = 0; i < 3; i++) due(x.at(1, i), x.at(0, i));
            }
        });
        sentence("Promise 13", "(also within one)", () -> {
            copyStage();
            dueCopy(1, 0, 0, 0, 1, 3);
            dueRow(0, 1, 1, 2, 3);
            row(0, INTS, 1, 2, 3, 4);
            dueCopy(1, 0, 1, 0, 0, 3);
            dueRow(0, 2, 3, 4, 4);
            dueCopy(1, 0, 0, 0, 0, 4);
            dueRow(0, 2, 3, 4, 4);
        });
        sentence("Promise 13", "(also within one): LENT", () -> {
            copyStage();
            x.lend(3, 0, true);
            dueCopy(1, 0, 0, 3, 1, 3);
            dueRow(0, 1, 1, 2, 3);
        });
        sentence("Promise 13", "n SAMPLES: none", () -> {
            copyStage();
            dueCopy(1, 0, 0, 1, 0, 0);
            dueCopy(1, 0, 4, 1, 3, 0);
            dueRow(1, 11, 12, 13);
            row(3, INTS);
            dueCopy(1, 3, 0, 3, 0, 0);
            dueCopy(1, 3, 0, 1, 3, 0);
        });
        sentence("Promise 13", "n SAMPLES: all 40", () -> {
            row(5, INTS, 1);
            x.block(0, INTS, 40);
            x.block(1, INTS, 40);
            x.put(0, 0, 8);
            x.put(0, 39, 9);
            dueCopy(INDEX, 0, 0, 1, 0, 41);
            dueCopy(1, 0, 0, 1, 0, 40);
            due(x.at(1, 0), 8);
            due(x.at(1, 39), 9);
        });
    }

    private static void copyRefused() {
        sentence("Promise 13", "BAD", () -> {
            copyStage();
            for (int b : NO_BLOCKS) {
                dueCopy(BAD, b, 0, 0, 0, 1);
                dueCopy(BAD, 0, 0, b, 0, 1);
                dueCopy(BAD, b, 0, b, 0, 0);
            }
            row(9, INTS, 5);
            dueCopy(1, 9, 0, 0, 0, 1);
            dueCopy(1, 0, 1, 9, 0, 1);
        });
        sentence("Promise 13", "NONE", () -> {
            copyStage();
            dueCopy(NONE, 3, 0, 0, 0, 1);
            dueCopy(NONE, 0, 0, 3, 0, 1);
            dueCopy(NONE, 3, 0, 4, 0, 0);
            dueCopy(NONE, 3, 0, 3, 0, 0);
            due(x.of(3, 0), NONE);
            row(3, INTS, 0);
            dueCopy(1, 3, 0, 0, 0, 1);
        });
        sentence("Promise 13", "STORE: unlike LANES", () -> {
            row(5, INTS, 1);
            for (int lane = 0; lane < 4; lane++) row(lane, lane, lane + 5);
            for (int from = 0; from < 4; from++) {
                x.block(6, from, 1);
                for (int to = 0; to < 4; to++) {
                    if (from != to) dueCopy(STORE, from, 0, to, 0, 1);
                }
                dueCopy(1, from, 0, 6, 0, 1);
            }
            dueCopy(STORE, 0, 0, 1, 0, 0);
            due(x.at(0, 0), 5);
            due(x.at(1, 0), 6);
        });
        sentence("Promise 13", "INDEX: of the first", () -> {
            copyStage();
            int[][] places = {{-1, 0}, {-1, 1}, {5, 0}, {4, 1}, {3, 2}, {MIN, 1}, {MAX, 0}, {MAX, 1}, {2, MAX}};
            for (int[] p : places) dueCopy(INDEX, 0, p[0], 1, 0, p[1]);
            dueRow(1, 11, 12, 13);
            dueCopy(1, 0, 3, 1, 0, 1);
            dueCopy(1, 0, 2, 1, 0, 2);
        });
        sentence("Promise 13", "INDEX: of the other", () -> {
            copyStage();
            int[][] places = {{-1, 0}, {-1, 1}, {4, 0}, {3, 1}, {2, 2}, {0, 4}, {MIN, 1}, {MAX, 0}, {MAX, 1}, {1, MAX}};
            for (int[] p : places) dueCopy(INDEX, 0, 0, 1, p[0], p[1]);
            dueRow(1, 11, 12, 13);
            dueCopy(1, 0, 0, 1, 2, 1);
            dueCopy(1, 0, 0, 1, 0, 3);
        });
        sentence("Promise 13", "INDEX: n below 0", () -> {
            copyStage();
            for (int n : new int[] {-1, -2, MIN}) dueCopy(INDEX, 0, 1, 1, 1, n);
            dueCopy(1, 0, 1, 1, 1, 0);
        });
        sentence("Promise 13", "INDEX: nothing is copied", () -> {
            copyStage();
            dueCopy(INDEX, 0, 0, 1, 0, 4);
            dueCopy(INDEX, 1, 0, 0, 2, 3);
            dueRow(1, 11, 12, 13);
            dueRow(0, 1, 2, 3, 4);
        });
        sentence("Promise 13", "BAD; NONE; STORE; INDEX: in this row", () -> {
            copyStage();
            dueCopy(BAD, 10, 0, 3, -1, 1);
            dueCopy(BAD, 3, -1, 10, 0, 1);
            dueCopy(NONE, 3, -1, 2, 0, 1);
            dueCopy(NONE, 2, 0, 3, -1, 1);
            dueCopy(STORE, 0, -1, 2, 0, 1);
            dueCopy(STORE, 2, 0, 0, 0, 5);
            dueCopy(STORE, 0, 0, 2, 0, -1);
        });
    }

    private static void bind() {
        sentence("Promise 14", "what it was bound to, -1 at first", () -> {
            due(x.bind(3), -1);
            due(x.bind(0), 3);
            due(x.bind(1), 0);
            due(x.bind(1), 1);
            due(x.bind(2), 1);
            due(x.bind(2), 2);
        });
        sentence("Promise 14", "BAD is -2 here", () -> {
            for (int lane : NO_LANES) due(x.bind(lane), -2);
            due(x.bind(0), -1);
            due(x.bind(3), 0);
        });
        sentence("Promise 14", "BAD: it is bound to what it was", () -> {
            instruments(TONE);
            x.bind(INTS);
            for (int lane : NO_LANES) due(x.bind(lane), -2);
            x.block(0, INTS, 1);
            due(x.play(0, 1, 0, 0, 0, 1), 1);
            due(x.bind(0), INTS);
        });
    }

    private static void function() {
        sentence("Promise 15", "A FUNCTION of a kind (0 to 5)", () -> {
            due(x.function(-1, 0), BAD);
            due(x.function(6, 0), BAD);
            due(x.function(MIN, 0), BAD);
            due(x.function(MAX, 0), BAD);
            due(x.count(1), 0);
            due(x.function(0, 0), 0);
            due(x.function(5, 0), 1);
        });
        sentence("Promise 15", "its number (8 at most); FULL", () -> {
            for (int i = 0; i < 8; i++) {
                due(x.count(1), i);
                due(x.function(SAME, i), i);
            }
            due(x.function(SAME, 0), FULL);
            due(x.function(PLUS, 0), FULL);
            due(x.count(1), 8);
        });
        sentence("Promise 15", "BAD; FULL: in this row", () -> {
            for (int i = 0; i < 8; i++) x.function(SAME, 0);
            due(x.function(6, 0), BAD);
            due(x.function(-1, 0), BAD);
            due(x.function(5, 0), FULL);
        });
        sentence("Promise 15", "FULL: those that are there stay", () -> {
            for (int i = 0; i < 8; i++) x.function(PLUS, i);
            x.function(PLUS, 100);
            for (int i = 0; i < 8; i++) due(x.find(10, 10 + i), i);
            due(x.find(10, 110), -1);
        });
        sentence("Promise 15", "with a: any int", () -> {
            int[] values = {MIN, MAX, 0, -1};
            for (int i = 0; i < 4; i++) due(x.function(PLUS, values[i]), i);
            for (int i = 0; i < 4; i++) due(x.find(0, values[i]), i);
        });
    }

    /** A tone that gives 0, 1, 2 .. from PHASE 128 on. */
    private static void rising() {
        instruments(TONE);
        x.note(0, 1, true);
        x.phase(0, 128);
    }

    private static void agree() {
        sentence("Promise 17", "n (0 to 40)", () -> {
            rising();
            x.function(SAME, 0);
            for (int n : new int[] {-1, 41, MIN, MAX}) due(x.agree(0, 0, n), false);
            for (int n : new int[] {0, 1, 40}) due(x.agree(0, 0, n), true);
        });
        sentence("Promise 17", "False: also BAD: no such INSTRUMENT", () -> {
            rising();
            x.function(SAME, 0);
            for (int i : new int[] {-1, 1, 12, MIN, MAX}) due(x.agree(i, 0, 0), false);
            due(x.agree(0, 0, 0), true);
        });
        sentence("Promise 17", "False: also BAD: no such FUNCTION", () -> {
            rising();
            due(x.agree(0, 0, 0), false);
            for (int f = 0; f < 8; f++) x.function(SAME, 0);
            for (int f : new int[] {-1, 8, MIN, MAX}) due(x.agree(0, f, 0), false);
            due(x.agree(0, 0, 0), true);
            due(x.agree(0, 7, 0), true);
        });
        sentence("Promise 17", "n SAMPLES are alike: none of them", () -> {
            rising();
            x.function(PLUS, 1);
            due(x.agree(0, 0, 0), true);
            due(x.agree(0, 0, 1), false);
        });
        sentence("Promise 17", "n SAMPLES are alike: up to the last, and beyond it", () -> {
            rising();
            x.function(LESSER, 38);
            x.function(LESSER, 39);
            due(x.agree(0, 0, 39), true);
            due(x.agree(0, 0, 40), false);
            due(x.agree(0, 1, 40), true);
            x.function(GREATER, 0);
            due(x.agree(0, 2, 40), true);
            x.function(GREATER, 1);
            due(x.agree(0, 3, 1), false);
        });
        sentence("Promise 17", "alike in between does not do", () -> {
            rising();
            x.function(TIMES, 2);
            due(x.agree(0, 0, 1), true);
            due(x.agree(0, 0, 2), false);
            x.phase(0, 127);
            due(x.agree(0, 0, 2), false);
        });
        sentence("Promise 17", "as it is now", () -> {
            rising();
            x.function(GREATER, 5);
            due(x.agree(0, 0, 5), false);
            x.phase(0, 133);
            due(x.agree(0, 0, 5), true);
            x.phase(0, 132);
            due(x.agree(0, 0, 1), false);
        });
        sentence("Promise 17", "(by ==, as doubles)", () -> {
            instruments(BELL, DRUM);
            x.knob(0, 1, 1);
            x.phase(0, 1);
            x.function(PLUS, 0);
            x.function(TIMES, -1);
            due(x.agree(0, 0, 4), true);
            due(x.agree(0, 1, 4), true);
            x.knob(1, 1, 1000);
            x.note(1, 1, true);
            x.function(LESSER, 0);
            due(x.agree(1, 2, 1), false);
            pass(1, 1);
            due(x.agree(1, 2, 1), false);
        });
    }

    private static void agreeFailures() {
        sentence("Promise 17", "up to the first FAILURE", () -> {
            instruments(BELL);
            x.knob(0, 1, 1);
            x.note(0, 9, true);
            x.function(GREATER, -8);
            x.knob(0, 2, 1);
            due(x.agree(0, 0, 40), true);
            x.knob(0, 2, 2);
            due(x.agree(0, 0, 40), false);
        });
        sentence("Promise 17", "and that is the same, at the same one: the INSTRUMENT's", () -> {
            instruments(BELL, DRUM, READER);
            x.function(PLUS, 1);
            for (int i = 0; i < 3; i++) due(x.agree(i, 0, 40), true);
            x.phase(0, 1);
            due(x.agree(0, 0, 1), true);
        });
        sentence("Promise 17", "and that is the same, at the same one: the FUNCTION's alone", () -> {
            rising();
            x.function(UNLESS, 39);
            due(x.agree(0, 0, 39), true);
            due(x.agree(0, 0, 40), false);
            x.function(UNLESS, 0);
            due(x.agree(0, 1, 1), false);
            due(x.agree(0, 1, 0), true);
        });
        sentence("Promise 17", "up to the first FAILURE: the end of a TABLE", () -> {
            instruments(READER);
            row(0, INTS, 4, 5, 6);
            x.table(0, 0, true);
            x.function(GREATER, 4);
            x.function(LESSER, 5);
            x.function(UNLESS, 7);
            due(x.agree(0, 0, 40), true);
            due(x.agree(0, 1, 2), true);
            due(x.agree(0, 1, 40), false);
            due(x.agree(0, 2, 40), true);
            dueRow(0, 4, 5, 6);
        });
        sentence("Promise 17", "at the same one: OWN of the FUNCTION ahead of OWN of the INSTRUMENT", () -> {
            instruments(BELL);
            x.knob(0, 1, 1);
            x.knob(0, 2, 2);
            x.note(0, 9, true);
            x.function(UNLESS, -9);
            x.function(UNLESS, 8);
            due(x.agree(0, 0, 1), true);
            due(x.agree(0, 0, 3), false);
            due(x.agree(0, 1, 3), true);
        });
        sentence("Promise 17", "the same FAILURE: a SAMPLE that FAILED does not go through the FUNCTION", () -> {
            instruments(DRUM);
            x.function(UNLESS, 0);
            due(x.agree(0, 0, 1), true);
            x.knob(0, 1, 1);
            due(x.agree(0, 0, 1), false);
        });
    }

    private static void agreeStays() {
        sentence("Promise 17", "(The INSTRUMENT stays as it is.)", () -> {
            instruments(DRUM);
            x.knob(0, 1, 2);
            x.note(0, 64, true);
            x.phase(0, 5);
            x.function(SAME, 0);
            x.function(PLUS, 1);
            due(x.agree(0, 0, 40), true);
            due(x.agree(0, 1, 40), false);
            dueNext(0, 64.0);
            due(x.phase(0, 0), 5);
        });
        sentence("Promise 17", "(The INSTRUMENT stays as it is.): behind a FAILURE too", () -> {
            instruments(BELL);
            x.knob(0, 1, 2);
            x.knob(0, 2, 2);
            x.note(0, 64, true);
            x.function(SAME, 0);
            x.function(UNLESS, -32);
            due(x.agree(0, 0, 40), true);
            due(x.agree(0, 1, 40), false);
            dueNext(0, 64.0);
            due(x.phase(0, 0), 0);
        });
        sentence("Promise 17", "copies give: nothing is PLAYED, and no STATE is told", () -> {
            rising();
            x.function(SAME, 0);
            x.phase(9, 0);
            x.agree(0, 0, 40);
            dueState(BAD);
            x.knob(0, 0, 0);
            x.agree(0, 0, 41);
            x.agree(9, 0, 1);
            dueState(0);
            for (int what = 2; what < 5; what++) due(x.count(what), 0);
        });
    }

    private static void find() {
        sentence("Promise 18", "The first FUNCTION by which x goes to y", () -> {
            x.function(PLUS, 2);
            x.function(TIMES, 2);
            x.function(LESSER, 3);
            x.function(GREATER, 3);
            x.function(SAME, 0);
            x.function(UNLESS, 9);
            due(x.find(2, 4), 0);
            due(x.find(5, 10), 1);
            due(x.find(5, 3), 2);
            due(x.find(1, 3), 0);
            due(x.find(-1, 3), 3);
            due(x.find(4, 4), 3);
            due(x.find(2, 2), 2);
            due(x.find(9, 9), 3);
            due(x.find(3, 3), 2);
        });
        sentence("Promise 18", "The first: up to the last of eight", () -> {
            for (int i = 0; i < 7; i++) x.function(PLUS, 1);
            x.function(SAME, 0);
            due(x.find(5, 6), 0);
            due(x.find(5, 5), 7);
            due(x.find(5, 7), -1);
        });
        sentence("Promise 18", "(as doubles", () -> {
            x.function(PLUS, 1);
            x.function(TIMES, 65536);
            due(x.find(MAX, MIN), -1);
            due(x.find(MAX, MAX), -1);
            due(x.find(65536, 0), -1);
            due(x.find(65536, MAX), -1);
            due(x.find(-65536, MIN), -1);
            due(x.find(MAX - 1, MAX), 0);
            due(x.find(32767, 65536 * 32767), 1);
            due(x.find(MIN, MIN + 1), 0);
        });
        sentence("Promise 18", "(as doubles: no two ints are one", () -> {
            x.function(SAME, 0);
            due(x.find(MAX, MAX), 0);
            due(x.find(MAX, MAX - 1), -1);
            due(x.find(16777217, 16777216), -1);
            due(x.find(MIN, MIN), 0);
        });
        sentence("Promise 18", "(as doubles: 0 of either sign", () -> {
            x.function(TIMES, -1);
            due(x.find(0, 0), 0);
            due(x.find(MIN, MIN), -1);
        });
        sentence("Promise 18", "FAILURES are none)", () -> {
            x.function(UNLESS, 5);
            due(x.find(5, 5), -1);
            due(x.find(5, 0), -1);
            due(x.find(4, 4), 0);
            due(x.find(6, 6), 0);
            x.function(SAME, 0);
            due(x.find(5, 5), 1);
        });
        sentence("Promise 18", "-1", () -> {
            due(x.find(0, 0), -1);
            x.function(PLUS, 1);
            due(x.find(0, 0), -1);
            due(x.find(0, 1), 0);
            due(x.find(0, 2), -1);
        });
    }

    private static void next() {
        sentence("Promise 19", "0, STATE: BAD", () -> {
            instruments(GLASS, GLASS);
            x.knob(0, 0, 5);
            x.knob(1, 0, 6);
            for (int i : new int[] {-1, 2, 12, MIN, MAX}) {
                x.knob(0, 1, 0);
                dueFailure(i, BAD);
            }
            dueNext(0, 5.0);
            dueNext(1, 6.0);
        });
        sentence("Promise 19", "0, STATE: FAILURES", () -> {
            instruments(BELL, DRUM, READER, READER, READER, READER);
            row(0, SHORTS, 1);
            row(1, INTS, 1);
            x.table(3, 0, true);
            x.table(4, 1, true);
            x.phase(4, 1);
            x.phase(5, -1);
            int[] causes = {OWN, ZERO, NONE, KIND, INDEX, SIZE};
            for (int i = 0; i < 6; i++) {
                x.knob(0, 3, 0);
                dueFailure(i, causes[i]);
            }
        });
        sentence("Promise 19", "BITS (of a double)", () -> {
            instruments(GLASS, BELL);
            for (int knob : new int[] {0, 1, -1, MAX, MIN}) {
                x.knob(0, 0, knob);
                dueNext(0, knob);
            }
            x.knob(1, 1, 1);
            x.phase(1, 1);
            x.next(9);
            dueNext(1, -0.0);
        });
        sentence("Promise 19", "it staying as it is", () -> {
            instruments(DRUM, BELL);
            for (int i = 0; i < 2; i++) {
                x.knob(i, 1, 2);
                x.knob(i, 2, 100);
                x.note(i, 64, true);
                x.phase(i, 4);
                for (int again = 0; again < 3; again++) dueNext(i, 64.0);
                due(x.phase(i, 100), 4);
            }
            dueFailure(1, OWN);
            due(x.phase(1, 0), 100);
            dueNext(1, 64.0);
        });
        sentence("Promise 19", "would give: nothing is PLAYED", () -> {
            instruments(TONE, DRUM);
            x.next(0);
            x.next(1);
            for (int what = 2; what < 5; what++) due(x.count(what), 0);
        });
    }

    private static void state() {
        sentence("Promise 20", "0, or what it was below 0: of a call that went well, whatever it answers", () -> {
            instruments(TONE);
            x.block(0, INTS, 3);
            x.phase(9, 0);
            x.play(0, 0, 0, 0, 0, 3);
            dueState(0);
            x.phase(9, 0);
            x.put(0, 0, -1);
            dueState(0);
            x.phase(9, 0);
            x.at(0, 0);
            dueState(0);
            x.phase(9, 0);
            x.copy(0, 0, 0, 1, 1);
            dueState(0);
            x.phase(9, 0);
            x.next(0);
            dueState(0);
            x.phase(9, 0);
            x.knob(0, 0, -1);
            dueState(0);
            x.knob(9, 0, 0);
            x.phase(0, -1);
            dueState(0);
        });
        sentence("Promise 20", "0, or what it was below 0: of a call that did not", () -> {
            instruments(TONE, DRUM);
            x.block(0, INTS, 1);
            x.block(1, SHORTS, 1);
            x.play(1, 0, 0, 0, 0, 1);
            dueState(ZERO);
            x.put(0, 1, 0);
            dueState(INDEX);
            x.at(2, 0);
            dueState(NONE);
            x.copy(0, 0, 1, 0, 1);
            dueState(STORE);
            x.play(0, 1, 0, 0, 0, 1);
            dueState(KIND);
            x.play(0, 0, 0, 0, 0, -1);
            dueState(SIZE);
            x.knob(0, 4, 0);
            dueState(BAD);
            x.next(1);
            dueState(ZERO);
            x.phase(2, 0);
            dueState(BAD);
        });
        sentence("Promise 20", "STATE: of none yet", () -> dueState(0));
        sentence("Promise 20", "STATE: state() itself leaves it", () -> {
            x.phase(9, 0);
            for (int i = 0; i < 3; i++) dueState(BAD);
        });
    }

    /** Each call that does not tell a state, in an order where each of them goes well. */
    private static void silentCalls() {
        x.instrument(TONE);
        x.note(0, 1, true);
        x.table(0, -1, true);
        x.block(0, INTS, 1);
        x.lend(1, 0, true);
        x.isLent(0, 1);
        x.of(0, 0);
        x.bind(INTS);
        x.function(SAME, 0);
        x.agree(0, 0, 1);
        x.find(1, 1);
        x.count(0);
    }

    private static void refusedSilentCalls() {
        x.instrument(-1);
        x.note(-1, 1, true);
        x.table(-1, -1, true);
        x.block(0, INTS, -1);
        x.block(-1, INTS, 1);
        x.lend(0, 9, false);
        x.lend(-1, 9, false);
        x.isLent(-1, -1);
        x.of(9, 0);
        x.of(-1, 0);
        x.bind(-1);
        x.function(-1, 0);
        x.agree(-1, 0, 1);
        x.find(1, 7);
        x.count(-1);
    }

    private static void stateStays() {
        sentence("Promise 20", "the latest call that says so: those that do not, going well", () -> {
            x.at(9, 0);
            silentCalls();
            dueState(NONE);
            x.phase(0, 0);
            silentCalls();
            dueState(0);
        });
        sentence("Promise 20", "the latest call that says so: those that do not, refused", () -> {
            x.at(9, 0);
            refusedSilentCalls();
            dueState(NONE);
            silentCalls();
            x.phase(0, 0);
            refusedSilentCalls();
            dueState(0);
        });
        sentence("Promise 20", "the latest call that says so: those that do not, FULL", () -> {
            for (int i = 0; i < 12; i++) x.instrument(TONE);
            for (int i = 0; i < 8; i++) x.function(SAME, 0);
            x.phase(0, 0);
            x.instrument(TONE);
            x.function(SAME, 0);
            dueState(0);
        });
    }

    private static void count() {
        sentence("Promise 21", "0 INSTRUMENTS, 1 FUNCTIONS", () -> {
            for (int i = 0; i < 12; i++) {
                due(x.count(0), i);
                x.instrument(TONE);
                x.instrument(5);
            }
            for (int i = 0; i < 8; i++) {
                due(x.count(1), i);
                x.function(SAME, 0);
                x.function(6, 0);
            }
            x.instrument(TONE);
            x.function(SAME, 0);
            due(x.count(0), 12);
            due(x.count(1), 8);
        });
        sentence("Promise 21", "2 PLAYED well", () -> {
            instruments(TONE);
            x.function(SAME, 0);
            x.bind(INTS);
            x.block(0, INTS, 3);
            for (int way = 0; way < 3; way++) {
                x.play(0, way, 0, 0, 0, 3);
                x.play(0, way, 0, 0, 0, 0);
                due(x.count(2), 2 * way + 2);
            }
            due(x.count(3), 0);
        });
        sentence("Promise 21", "3 PLAYED that FAILED: a SAMPLE", () -> {
            instruments(DRUM, TONE);
            x.function(UNLESS, 0);
            x.block(0, INTS, 3);
            x.play(0, 0, 0, 0, 0, 3);
            due(x.count(3), 1);
            x.play(1, 2, 0, 0, 0, 3);
            due(x.count(3), 2);
            x.play(0, 0, 0, 0, 0, 0);
            due(x.count(3), 2);
            due(x.count(2), 1);
        });
        sentence("Promise 21", "3 PLAYED that FAILED: the BLOCK", () -> {
            instruments(TONE);
            x.block(0, INTS, 3);
            x.play(0, 0, 0, 1, 0, 3);
            due(x.count(3), 1);
            x.play(0, 1, 0, 0, 0, 3);
            due(x.count(3), 2);
            x.play(0, 0, 0, 0, 0, -1);
            due(x.count(3), 3);
            x.play(0, 0, 0, 0, 0, 4);
            due(x.count(3), 4);
            due(x.count(2), 0);
            due(x.count(4), 0);
        });
        sentence("Promise 21", "3 PLAYED that FAILED: not what is BAD", () -> {
            instruments(TONE);
            x.block(0, INTS, 3);
            x.play(1, 0, 0, 0, 0, 3);
            x.play(0, 3, 0, 0, 0, 3);
            x.play(0, 2, 0, 0, 0, 3);
            x.play(0, 0, 0, 10, 0, 3);
            for (int what = 2; what < 5; what++) due(x.count(what), 0);
        });
        sentence("Promise 21", "4 SAMPLES that were asked of INSTRUMENTS in PLAYED", () -> {
            instruments(TONE, BELL);
            x.knob(1, 1, 1);
            x.knob(1, 2, 2);
            x.block(0, INTS, 40);
            x.play(0, 0, 0, 0, 0, 40);
            due(x.count(4), 40);
            x.play(1, 0, 0, 0, 0, 40);
            due(x.count(4), 43);
            x.play(0, 0, 0, 0, 0, 0);
            x.play(0, 0, 0, 0, 1, 40);
            due(x.count(4), 43);
            x.next(0);
            x.function(SAME, 0);
            x.agree(0, 0, 40);
            due(x.count(4), 43);
        });
        sentence("Promise 21", "BAD", () -> {
            for (int what : new int[] {-1, 5, MIN, MAX}) due(x.count(what), BAD);
            due(x.count(0), 0);
            due(x.count(4), 0);
        });
    }

    private static void lastCall() {
        sentence("What it is", "at most 512 calls: PLAYED in all but three", () -> {
            instruments(TONE);
            x.block(0, SHORTS, 40);
            for (int i = 3; i < 512; i++) due(x.play(0, 0, 0, 0, 0, 40), 40);
            due(x.count(4), 509 * 40);
        });
        sentence("What it is", "at most 512 calls: a BLOCK made in all but one", () -> {
            for (int i = 1; i < 512; i++) due(x.block(i % 10, i % 4, 40), 1);
            due(x.of(1, 0), 511 % 4);
        });
        sentence("What it is", "at most 512 calls: copies in all but one", () -> {
            x.block(0, DOUBLES, 40);
            for (int i = 1; i < 512; i++) due(x.lend(i % 10, 0, false), 1);
        });
    }
}
