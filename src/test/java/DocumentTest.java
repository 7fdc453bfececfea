import java.io.IOException;
import java.nio.file.Files;
import java.nio.file.Path;

/**
 * The document from its first line to its last. Each sentence is quoted in its row and played, or told
 * why no call can show it; at the end what was quoted must be the whole document.
 */
public final class DocumentTest extends Boundaries {
    private static final Path DOCUMENT = Path.of("../shared/DOC.md");
    private static final StringBuilder quotations = new StringBuilder();

    public static void main(String[] args) throws IOException {
        whatItIs();
        blocks();
        bits();
        newInstruments();
        samplesOfInstruments();
        tonesAndGlasses();
        drumsAndBells();
        readers();
        failures();
        playedRefused();
        playedWell();
        playedFailed();
        ways();
        kindsOfFunctions();
        promisesOfInstruments();
        promisesOfBlocks();
        promisesOfSamples();
        promisesOfHandleAndFunctions();
        promiseOfPlay();
        promisesOfAsking();
        promisesOfStateAndCount();
        notPromised();
        sentence("DOC.md", "from its first line to its last", () -> wholeDocument());
        end();
    }

    private static void said(String words, Runnable calls) {
        quotations.append(words).append(' ');
        sentence("DOC.md", words, calls);
    }

    /** Words that no call can show; why not is told for the reader alone. */
    private static void unplayed(String words, String why) {
        quotations.append(words).append(' ');
    }

    private static void promise(int number, String name, String head) {
        unplayed("## Promise " + number + ": " + name + " " + head + ":", "a heading");
    }

    /** The face, a program text, is left to FaceTest. */
    private static void wholeDocument() {
        String document = "";
        try {
            document = Files.readString(DOCUMENT);
        } catch (IOException e) {
            System.out.println("no " + DOCUMENT + " here: whether a sentence is left out is not looked at");
            return;
        }
        String due = plain(document.replaceAll("(?s)```java.*?```", ""));
        String quoted = plain(quotations.toString());
        int alike = 0;
        while (alike < Math.min(due.length(), quoted.length()) && due.charAt(alike) == quoted.charAt(alike)) alike++;
        if (!due.equals(quoted)) {
            System.out.println("the document goes on: " + due.substring(alike, Math.min(due.length(), alike + 80)));
            System.out.println("the quotations go on: " + quoted.substring(alike, Math.min(quoted.length(), alike + 80)));
        }
        due(due.equals(quoted), true);
    }

    private static String plain(String text) {
        return text.replace("```text", "").replace("`", "").replaceAll("\\s+", " ").trim();
    }

    /** An instrument of each cause, that fails at its first sample; block 0 is its table where it has one. */
    private static void failing(int cause) {
        int[] sorts = {BELL, DRUM, READER, READER, READER, READER};
        instruments(sorts[OWN - cause]);
        row(0, cause == KIND ? SHORTS : INTS, 5, 6);
        if (cause != NONE) x.table(0, 0, true);
        if (cause == INDEX) x.phase(0, 2);
        if (cause == SIZE) x.phase(0, -1);
    }

    /** Plays two samples into a row of 7s, behind a function that changes nothing. */
    private static int playTwo(int way) {
        x.function(SAME, 0);
        x.bind(INTS);
        row(1, INTS, 7, 7, 7);
        return x.play(0, way, 0, 1, 0, 2);
    }

    private static void whatItIs() {
        unplayed("# CallWays2 ## What it is", "a heading");
        said("Instruments that are played in three ways: by their members, by handles that are bound to a lane, by function objects;", () -> {
            for (int way = 0; way < 3; way++) {
                x = new CallWays2();
                instruments(TONE);
                x.note(0, 3, true);
                due(playTwo(way), 2);
                dueRow(1, -128, -125, 7);
            }
        });
        said("samples come into blocks, arrays of four lanes that are lent or given as copies;", () -> {
            instruments(TONE);
            x.note(0, 3, true);
            for (int lane = 0; lane < 4; lane++) {
                x.block(0, lane, 1);
                x.lend(1, 0, true);
                x.lend(2, 0, false);
                x.phase(0, 1);
                due(x.play(0, 0, 0, 0, 0, 1), 1);
                long[] bits = {-125L, -125L, Float.floatToIntBits(-125f), Double.doubleToLongBits(-125.0)};
                due(x.at(0, 0), bits[lane]);
                due(x.at(1, 0), bits[lane]);
                due(x.at(2, 0), 0);
            }
        });
        said("what an instrument has against a sample, and the machine against its arrays, becomes silence and a cause, the same in each way.", () -> {
            for (int cause = OWN; cause >= SIZE; cause--) {
                for (int way = 0; way < 3; way++) {
                    x = new CallWays2();
                    failing(cause);
                    due(playTwo(way), cause);
                    dueState(cause);
                    dueRow(1, 0, 0, 7);
                }
            }
        });
        unplayed("== BLOCKS 0 ..", "\"Terms\" goes on with this sentence");
        said("An object is used for at most 512 calls after it has been made;", () -> {
            instruments(TONE);
            for (int call = 2; call <= 511; call++) due(x.phase(0, call), call == 2 ? 0 : call - 1);
            due(x.phase(0, 0), 511);
        });
        unplayed("what later calls answer is free.", "free");
        unplayed("## The public face", "FaceTest looks at the face");
    }

    private static void blocks() {
        unplayed("## Terms", "a heading");
        said("9 hold nothing at first, or SAMPLES of a LANE: 0 SHORTS, 1 INTS, 2 FLOATS, 3 DOUBLES (0 to 40, 0 at first);", () -> {
            for (int b = 0; b <= 9; b++) due(x.of(b, 0), NONE);
            due(x.of(10, 0), BAD);
            for (int lane = 0; lane < 4; lane++) {
                due(x.block(lane, lane, 10 * lane), 1);
                due(x.of(lane, 0), lane);
                due(x.of(lane, 1), 10 * lane);
                for (int i = 0; i < 10 * lane; i++) due(x.at(lane, i), 0);
            }
            due(x.block(9, INTS, 40), 1);
            due(x.block(9, INTS, 41), BAD);
            due(x.block(9, 4, 1), BAD);
        });
        said("several may hold the same ones (then they are LENT).", () -> {
            row(0, INTS, 5, 6);
            x.lend(1, 0, true);
            x.lend(2, 1, true);
            due(x.isLent(0, 2), true);
            x.put(1, 0, 50);
            dueRow(0, 50, 6);
            dueRow(2, 50, 6);
        });
    }

    private static void bits() {
        said("BITS of a SAMPLE: of a FLOAT its 32 as a whole number with sign,", () -> {
            row(0, FLOATS, 1, -1, 100);
            due(x.at(0, 0), 0x3f800000L);
            due(x.at(0, 1), 0xbf800000L - 0x100000000L);
            due(x.at(0, 2), 0x42c80000L);
            instruments(BELL);
            x.knob(0, 1, 1);
            x.phase(0, 1);
            x.play(0, 0, 0, 0, 0, 1);
            due(x.at(0, 0), MIN);
        });
        said("of a DOUBLE its 64", () -> {
            row(0, DOUBLES, 1, -1, 100);
            due(x.at(0, 0), 0x3ff0000000000000L);
            due(x.at(0, 1), 0xbff0000000000000L);
            due(x.at(0, 2), 0x4059000000000000L);
            instruments(BELL);
            x.knob(0, 1, 1);
            x.phase(0, 1);
            due(x.next(0), Long.MIN_VALUE);
        });
        unplayed("(of all that are no number those of 0x7fc00000, 0x7ff8000000000000),", "no call gives a sample that is no number");
        said("else itself.", () -> {
            row(0, SHORTS, 1, -1, 100);
            dueRow(0, 1, -1, 100);
            row(1, INTS, 1, -1, 100000);
            dueRow(1, 1, -1, 100000);
        });
    }

    private static void newInstruments() {
        said("== INSTRUMENTS 0 .. 11 are of a SORT,", () -> {
            for (int i = 0; i <= 11; i++) due(x.instrument(i % 5), i);
            due(x.instrument(0), FULL);
            due(x.note(11, 1, true), 0);
            due(x.note(12, 1, true), BAD);
        });
        said("and have KNOBS 0 to 3 (ints, 0 at first),", () -> {
            instruments(GLASS);
            for (int k = 0; k <= 3; k++) due(x.knob(0, k, MAX - k), 0);
            for (int k = 0; k <= 3; k++) due(x.knob(0, k, MIN), MAX - k);
            due(x.knob(0, 4, 1), 0);
            dueState(BAD);
        });
        // That it is 0 at first no call can show: an instrument is ON only behind a note() that sets it.
        said("a PITCH (0),", () -> {
            instruments(TONE, TONE);
            x.note(0, 3, true);
            x.note(1, 5, true);
            x.phase(0, 2);
            x.phase(1, 2);
            dueNext(0, -122.0);
            dueNext(1, -118.0);
        });
        said("are ON or OFF (at first),", () -> {
            instruments(TONE);
            dueNext(0, 0.0);
            due(x.note(0, 0, true), 0);
            dueNext(0, -128.0);
            due(x.note(0, 0, false), 1);
            dueNext(0, 0.0);
        });
        said("have a PHASE (an int, 0 at first),", () -> {
            instruments(READER);
            due(x.phase(0, MIN), 0);
            due(x.phase(0, MAX), MIN);
            due(x.phase(0, 0), MAX);
        });
        said("a LEVEL (a double, 0.0),", () -> {
            instruments(DRUM);
            x.knob(0, 1, 3);
            dueNext(0, 0.0);
            x.note(0, 10, true);
            pass(0, 1);
            dueNext(0, 10.0 * 333.0 / 1000.0);
        });
        said("and a TABLE: a BLOCK's SAMPLES, or none.", () -> {
            instruments(READER);
            dueFailure(0, NONE);
            row(0, INTS, 5);
            due(x.table(0, 0, true), 1);
            dueNext(0, 5.0);
            due(x.table(0, -1, true), 1);
            dueFailure(0, NONE);
        });
    }

    private static void samplesOfInstruments() {
        said("Each SAMPLE of theirs, one after the other, is a double,", () -> {
            instruments(DRUM);
            x.knob(0, 1, 300);
            x.note(0, 1, true);
            x.block(0, DOUBLES, 3);
            due(x.play(0, 0, 0, 0, 0, 3), 3);
            dueDoubles(0, 1.0, 3.0 / 1000.0, 3.0 / 1000.0 * 3.0 / 1000.0);
        });
        said("and PHASE is 1 more behind it (also behind one that FAILS):", () -> {
            instruments(TONE, DRUM);
            pass(0, 3);
            due(x.phase(0, 0), 3);
            x.block(0, INTS, 3);
            due(x.play(1, 0, 0, 0, 0, 3), ZERO);
            due(x.phase(1, 0), 1);
        });
    }

    private static void tonesAndGlasses() {
        said("0 TONE: ON: (PHASE times PITCH) % 256 - 128, all as ints;", () -> {
            instruments(TONE);
            x.note(0, 100, true);
            int[][] wants = {{0, -128}, {1, -28}, {3, -84}, {-3, -172}, {MAX, MAX * 100 % 256 - 128}, {MIN, -128}};
            for (int[] w : wants) {
                x.phase(0, w[0]);
                dueNext(0, w[1]);
            }
        });
        said("OFF: 0.", () -> {
            instruments(TONE);
            x.note(0, 100, false);
            x.phase(0, 3);
            dueNext(0, 0.0);
        });
        said("1 GLASS, a TONE: twice what a TONE gives, and KNOB 0 (as doubles).", () -> {
            instruments(GLASS);
            x.knob(0, 0, 7);
            dueNext(0, 7.0);
            x.note(0, 100, true);
            x.phase(0, 3);
            dueNext(0, 2.0 * -84.0 + 7.0);
            x.knob(0, 0, MIN);
            dueNext(0, 2.0 * -84.0 - 2147483648.0);
        });
    }

    private static void drumsAndBells() {
        said("2 DRUM: LEVEL; then LEVEL becomes LEVEL * (1000 / KNOB 1, as ints, then as a double) / 1000.0;", () -> {
            int[] knobs = {1, 3, -7, 1000, 1001, MIN};
            for (int v : knobs) {
                x = new CallWays2();
                instruments(DRUM);
                x.knob(0, 1, v);
                x.note(0, 127, true);
                dueNext(0, 127.0);
                pass(0, 1);
                dueNext(0, 127.0 * (double) (1000 / v) / 1000.0);
            }
        });
        said("ZERO leaves it.", () -> {
            instruments(DRUM);
            x.note(0, 64, true);
            pass(0, 1);
            dueFailure(0, ZERO);
            x.knob(0, 1, 1);
            dueNext(0, 64.0);
        });
        said("note() that is ON sets LEVEL to PITCH.", () -> {
            instruments(DRUM, BELL);
            for (int i = 0; i < 2; i++) {
                x.knob(i, 1, 1);
                x.knob(i, 2, -1);
                x.note(i, 64, true);
                dueNext(i, 64.0);
                x.note(i, 32, false);
                dueNext(i, 64.0);
                x.note(i, 16, true);
                dueNext(i, 16.0);
            }
        });
        said("3 BELL, a DRUM: OWN (and LEVEL stays), if PHASE is KNOB 2;", () -> {
            instruments(BELL);
            x.knob(0, 1, 2);
            x.knob(0, 2, 4);
            x.note(0, 64, true);
            x.phase(0, 4);
            dueFailure(0, OWN);
            pass(0, 1);
            due(x.phase(0, 6), 5);
            dueNext(0, 64.0);
        });
        said("else as a DRUM, and -1.0 times that where PHASE is odd.", () -> {
            instruments(BELL);
            x.knob(0, 2, -1);
            dueFailure(0, ZERO);
            x.knob(0, 1, 2);
            x.note(0, 64, true);
            x.block(0, DOUBLES, 4);
            due(x.play(0, 0, 0, 0, 0, 4), 4);
            dueDoubles(0, 64.0, -32.0, 16.0, -8.0);
            x.phase(0, -3);
            dueNext(0, -4.0);
        });
    }

    private static void readers() {
        said("4 READER: SAMPLE PHASE + KNOB 0 (as ints) of its TABLE, taken for INTS;", () -> {
            instruments(READER);
            row(0, INTS, 5, MIN, MAX);
            x.table(0, 0, true);
            dueNext(0, 5.0);
            x.knob(0, 0, 1);
            dueNext(0, -2147483648.0);
            x.phase(0, 1);
            dueNext(0, 2147483647.0);
            x.phase(0, MAX);
            x.knob(0, 0, MIN + 2);
            dueNext(0, -2147483648.0);
        });
        said("when it is OFF, a row of PHASE % 8 ints (as ints) is made ahead of that, and let go: SIZE, if that is below 0.", () -> {
            instruments(READER);
            row(0, INTS, 5);
            x.table(0, 0, true);
            int[] phases = {-1, -7, -8, -9, 8};
            int[] causes = {SIZE, SIZE, 0, SIZE, 0};
            for (int i = 0; i < phases.length; i++) {
                x.phase(0, phases[i]);
                x.knob(0, 0, -phases[i]);
                x.note(0, 1, false);
                if (causes[i] == 0) dueNext(0, 5.0);
                else dueFailure(0, causes[i]);
                x.note(0, 1, true);
                dueNext(0, 5.0);
            }
        });
    }

    private static void failures() {
        said("FAILURES, the first that happens as told:", () -> {
            instruments(BELL, READER);
            dueFailure(0, OWN);
            x.knob(0, 2, 1);
            dueFailure(0, ZERO);
            x.phase(1, -1);
            dueFailure(1, SIZE);
            x.note(1, 1, true);
            dueFailure(1, NONE);
            row(0, DOUBLES, 5);
            x.table(1, 0, true);
            dueFailure(1, KIND);
            row(0, INTS, 5);
            x.table(1, 0, true);
            dueFailure(1, INDEX);
        });
        failureSaid("OWN;", OWN);
        failureSaid("ZERO: 1000 by 0;", ZERO);
        failureSaid("NONE: no TABLE;", NONE);
        failureSaid("KIND: a TABLE of another LANE;", KIND);
        failureSaid("INDEX: no such SAMPLE;", INDEX);
        failureSaid("SIZE.", SIZE);
    }

    private static void failureSaid(String words, int cause) {
        said(words, () -> {
            failing(cause);
            dueFailure(0, cause);
            due(playTwo(0), cause);
            dueState(cause);
        });
    }

    /** That a play into block 0 was refused: no sample asked, and the block's samples as before. */
    private static void dueUntouched(int... samples) {
        due(x.count(4), 0);
        due(x.phase(0, 0), 0);
        dueRow(0, samples);
    }

    private static void playedRefused() {
        said("== PLAYED into a BLOCK from a place on, n SAMPLES.", () -> {
            instruments(TONE);
            x.note(0, 1, true);
            row(0, INTS, 7, 7, 7, 7);
            due(x.play(0, 0, 0, 0, 1, 2), 2);
            dueRow(0, 7, -128, -127, 7);
        });
        said("First the BLOCK, in this row:", () -> {
            instruments(DRUM);
            due(x.play(0, 1, 0, 0, -1, -1), NONE);
            x.block(0, INTS, 2);
            due(x.play(0, 1, 0, 0, -1, -1), KIND);
            x.bind(INTS);
            due(x.play(0, 1, 0, 0, -1, -1), SIZE);
            due(x.play(0, 1, 0, 0, -1, 1), INDEX);
            due(x.play(0, 1, 0, 0, 0, 1), ZERO);
        });
        said("NONE: it holds nothing;", () -> {
            instruments(TONE);
            for (int way = 0; way < 2; way++) due(x.play(0, way, 0, 0, 0, 0), NONE);
            dueState(NONE);
        });
        said("KIND: the WAY is 1, and the handle is not bound to its LANE;", () -> {
            instruments(TONE);
            x.function(SAME, 0);
            for (int lane = 0; lane < 4; lane++) {
                x.block(lane, lane, 1);
                due(x.play(0, 1, 0, lane, 0, 1), KIND);
            }
            for (int bound = 0; bound < 4; bound++) {
                x.bind(bound);
                for (int lane = 0; lane < 4; lane++) due(x.play(0, 1, 0, lane, 0, 1), bound == lane ? 1 : KIND);
                for (int lane = 0; lane < 4; lane++) due(x.play(0, 0, 0, lane, 0, 1), 1);
                for (int lane = 0; lane < 4; lane++) due(x.play(0, 2, 0, lane, 0, 1), 1);
            }
        });
        said("SIZE: n is below 0;", () -> {
            instruments(TONE);
            x.block(0, INTS, 2);
            for (int n : new int[] {-1, MIN}) due(x.play(0, 0, 0, 0, 0, n), SIZE);
            due(x.play(0, 0, 0, 0, 0, 0), 0);
        });
        said("INDEX: from is below 0, or from and n are beyond its end:", () -> {
            instruments(TONE);
            x.block(0, INTS, 3);
            int[][] beyond = {{-1, 0}, {MIN, 1}, {0, 4}, {1, 3}, {3, 1}, {4, 0}, {MAX, 1}, {1, MAX}, {MAX, MAX}};
            for (int[] b : beyond) due(x.play(0, 0, 0, 0, b[0], b[1]), INDEX);
            due(x.play(0, 0, 0, 0, 3, 0), 0);
            due(x.play(0, 0, 0, 0, 0, 3), 3);
        });
        said("then nothing is asked, nothing changed.", () -> {
            instruments(TONE);
            row(0, INTS, 7, 7);
            x.play(0, 1, 0, 0, 0, 1);
            x.play(0, 0, 0, 0, 0, -1);
            x.play(0, 0, 0, 0, 1, 2);
            x.play(0, 0, 0, 5, 0, 1);
            dueUntouched(7, 7);
        });
    }

    private static void playedWell() {
        said("Then SAMPLES are asked of the INSTRUMENT, one after the other,", () -> {
            instruments(TONE);
            x.note(0, 1, true);
            x.block(0, INTS, 5);
            due(x.play(0, 0, 0, 0, 0, 5), 5);
            dueRow(0, -128, -127, -126, -125, -124);
            due(x.count(4), 5);
            due(x.phase(0, 0), 5);
        });
        said("each turned into the LANE by the machine's cast (a double to a short by an int).", () -> {
            instruments(GLASS, DRUM);
            x.function(PLUS, 70000);
            x.function(TIMES, MAX);
            x.knob(0, 0, 1);
            for (int lane = 0; lane < 4; lane++) {
                x.block(lane, lane, 2);
                due(x.play(0, 2, 0, lane, 0, 1), 1);
            }
            due(x.at(0, 0), (short) 70001);
            due(x.at(1, 0), 70001);
            dueBits(x.at(2, 0), 70001f);
            dueBits(x.at(3, 0), 70001.0);
            x.knob(0, 0, 3);
            for (int lane = 0; lane < 4; lane++) due(x.play(0, 2, 1, lane, 1, 1), 1);
            due(x.at(0, 1), -1);
            due(x.at(1, 1), MAX);
            dueBits(x.at(2, 1), (float) (3.0 * MAX));
            dueBits(x.at(3, 1), 3.0 * MAX);
            x.knob(1, 1, 2);
            x.note(1, 3, true);
            pass(1, 1);
            due(x.play(1, 0, 0, 1, 0, 1), 1);
            due(x.at(1, 0), 1);
        });
        said("If all come well, they are there, in their row, all at once:", () -> {
            instruments(READER);
            row(0, INTS, 1, 2, 3, 4);
            x.table(0, 0, true);
            due(x.play(0, 0, 0, 0, 1, 3), 3);
            dueRow(0, 1, 1, 2, 3);
        });
        said("n is the answer.", () -> {
            instruments(TONE);
            x.block(0, INTS, 40);
            for (int n : new int[] {0, 1, 17, 40}) {
                due(x.play(0, 0, 0, 0, 0, n), n);
                dueState(0);
            }
            due(x.count(2), 4);
        });
    }

    private static void playedFailed() {
        said("If one FAILS, no further one is asked,", () -> {
            instruments(BELL);
            x.knob(0, 1, 1);
            x.knob(0, 2, 2);
            x.block(0, INTS, 9);
            due(x.play(0, 0, 0, 0, 0, 9), OWN);
            due(x.count(4), 3);
            due(x.phase(0, 0), 3);
        });
        said("the n places become 0 (SILENCE),", () -> {
            instruments(READER);
            row(0, INTS, 1, 2, 3, 4, 5);
            row(1, INTS, 9);
            x.table(0, 1, true);
            due(x.play(0, 0, 0, 0, 1, 3), INDEX);
            dueRow(0, 1, 0, 0, 0, 5);
        });
        said("and the FAILURE is the answer.", () -> {
            for (int cause = OWN; cause >= SIZE; cause--) {
                x = new CallWays2();
                failing(cause);
                due(playTwo(0), cause);
            }
        });
    }

    private static void ways() {
        said("WAYS: 0 by members;", () -> {
            instruments(TONE);
            x.note(0, 2, true);
            due(playTwo(0), 2);
            dueRow(1, -128, -126, 7);
        });
        said("1 by the handle;", () -> {
            instruments(TONE);
            x.note(0, 2, true);
            due(playTwo(1), 2);
            dueRow(1, -128, -126, 7);
            x.bind(FLOATS);
            due(x.play(0, 1, 0, 1, 0, 2), KIND);
        });
        said("2 by a FUNCTION of a kind, with a (an int, taken as a double):", () -> {
            instruments(GLASS);
            x.knob(0, 0, MAX);
            x.function(PLUS, MAX);
            x.function(PLUS, MIN);
            x.block(0, DOUBLES, 2);
            x.play(0, 2, 0, 0, 0, 1);
            x.play(0, 2, 1, 0, 1, 1);
            dueDoubles(0, 2.0 * MAX, -1.0);
        });
        said("each SAMPLE x goes through it ahead of its being turned:", () -> {
            instruments(DRUM);
            x.knob(0, 1, 2);
            x.note(0, 3, true);
            x.function(TIMES, 2);
            x.block(0, INTS, 3);
            due(x.play(0, 2, 0, 0, 0, 3), 3);
            dueRow(0, 6, 3, 1);
        });
    }

    /** Glasses that are OFF give 3.0, 5.0 and 8.0, and the function's a is 5. */
    private static void kindSaid(String words, int kind, double... wants) {
        said(words, () -> {
            instruments(GLASS);
            due(x.function(kind, 5), 0);
            x.block(0, DOUBLES, 1);
            double[] given = {3.0, 5.0, 8.0};
            for (int i = 0; i < given.length; i++) {
                x.knob(0, 0, (int) given[i]);
                boolean isRefused = kind == UNLESS && i == 1;
                due(x.play(0, 2, 0, 0, 0, 1), isRefused ? OWN : 1);
                dueBits(x.at(0, 0), wants[i]);
            }
        });
    }

    private static void kindsOfFunctions() {
        kindSaid("0 x + a;", PLUS, 8.0, 10.0, 13.0);
        kindSaid("1 x * a;", TIMES, 15.0, 25.0, 40.0);
        kindSaid("2 the lesser of both;", LESSER, 3.0, 5.0, 5.0);
        kindSaid("3 the greater one;", GREATER, 5.0, 5.0, 8.0);
        kindSaid("4 x;", SAME, 3.0, 5.0, 8.0);
        kindSaid("5 OWN, if x == a, else x.", UNLESS, 3.0, 0.0, 8.0);
    }

    private static void promisesOfInstruments() {
        promise(1, "A new object", "CallWays2()");
        said("No INSTRUMENTS, no FUNCTIONS; BLOCKS hold nothing; the handle is bound to none.", () -> {
            for (int what = 0; what < 5; what++) due(x.count(what), 0);
            due(x.note(0, 1, true), BAD);
            due(x.find(0, 0), -1);
            for (int b = 0; b < 10; b++) due(x.of(b, 0), NONE);
            due(x.bind(0), -1);
        });
        promise(2, "instrument", "int instrument(int sort)");
        said("An INSTRUMENT of a SORT: its number.", () -> {
            for (int sort = 0; sort < 5; sort++) due(x.instrument(sort), sort);
            due(x.count(0), 5);
        });
        said("BAD; FULL.", () -> {
            for (int sort : new int[] {-1, 5, MIN, MAX}) due(x.instrument(sort), BAD);
            for (int i = 0; i < 12; i++) due(x.instrument(4), i);
            due(x.instrument(4), FULL);
            due(x.instrument(5), BAD);
        });
        promise(3, "note", "int note(int instrument, int pitch, boolean on)");
        said("PITCH, ON or OFF: whether it was ON (1, 0).", () -> {
            instruments(TONE, GLASS, DRUM, BELL, READER);
            for (int i = 0; i < 5; i++) {
                due(x.note(i, 5, true), 0);
                due(x.note(i, 6, true), 1);
                due(x.note(i, 7, false), 1);
                due(x.note(i, 8, false), 0);
            }
        });
        said("BAD; BAD: PITCH is not 0 to 127.", () -> {
            instruments(TONE);
            due(x.note(1, 5, true), BAD);
            for (int pitch : new int[] {-1, 128, MIN, MAX}) due(x.note(0, pitch, true), BAD);
            due(x.note(0, 0, true), 0);
            due(x.note(0, 127, true), 1);
        });
        promise(4, "knob", "int knob(int instrument, int k, int v)");
        said("A KNOB becomes v: what it was;", () -> {
            instruments(GLASS);
            due(x.knob(0, 0, -5), 0);
            due(x.knob(0, 0, 6), -5);
            dueNext(0, 6.0);
        });
        said("0 when it is BAD: state() tells.", () -> {
            instruments(GLASS);
            x.knob(0, 0, 6);
            int[][] bad = {{1, 0}, {-1, 0}, {0, 4}, {0, -1}};
            for (int[] b : bad) {
                x.phase(0, 0);
                due(x.knob(b[0], b[1], 9), 0);
                dueState(BAD);
            }
            due(x.knob(0, 0, 0), 6);
            dueState(0);
        });
        promise(5, "phase", "int phase(int instrument, int v)");
        said("The PHASE becomes v: what it was;", () -> {
            instruments(TONE);
            due(x.phase(0, -5), 0);
            due(x.phase(0, 6), -5);
            dueState(0);
        });
        said("0 when it is BAD.", () -> {
            instruments(TONE);
            x.phase(0, 6);
            due(x.phase(1, 9), 0);
            dueState(BAD);
            due(x.phase(0, 0), 6);
        });
        promise(6, "table", "int table(int instrument, int block, boolean lent)");
        said("An INSTRUMENT's TABLE becomes what a BLOCK holds, LENT, or a copy of it (-1: none): 1.", () -> {
            instruments(READER, READER);
            row(0, INTS, 5);
            due(x.table(0, 0, true), 1);
            due(x.table(1, 0, false), 1);
            x.put(0, 0, 6);
            dueNext(0, 6.0);
            dueNext(1, 5.0);
            due(x.table(0, -1, false), 1);
            dueFailure(0, NONE);
        });
        said("BAD.", () -> {
            instruments(READER);
            row(0, INTS, 5);
            x.table(0, 0, true);
            due(x.table(1, 0, true), BAD);
            due(x.table(0, -2, true), BAD);
            due(x.table(0, 10, true), BAD);
            dueNext(0, 5.0);
        });
    }

    private static void promisesOfBlocks() {
        promise(7, "block", "int block(int block, int lane, int n)");
        said("A BLOCK holds n new SAMPLES of a LANE: 1.", () -> {
            row(0, INTS, 5);
            x.lend(1, 0, true);
            due(x.block(0, SHORTS, 2), 1);
            dueRow(0, 0, 0);
            dueRow(1, 5);
        });
        said("BAD: BLOCK, LANE, n above 40; SIZE.", () -> {
            row(0, INTS, 5);
            for (int b : NO_BLOCKS) due(x.block(b, INTS, 1), BAD);
            for (int lane : NO_LANES) due(x.block(0, lane, 1), BAD);
            due(x.block(0, INTS, 41), BAD);
            due(x.block(0, INTS, -1), SIZE);
            dueRow(0, 5);
        });
        promise(8, "lend", "int lend(int block, int from, boolean lent)");
        said("A BLOCK holds what another one does, LENT, or a copy of it: 1.", () -> {
            row(0, INTS, 5);
            due(x.lend(1, 0, true), 1);
            due(x.lend(2, 0, false), 1);
            x.put(0, 0, 6);
            dueRow(1, 6);
            dueRow(2, 5);
            due(x.lend(1, 3, true), 1);
            due(x.of(1, 0), NONE);
        });
        said("BAD; NONE: it holds nothing, and a copy is asked.", () -> {
            row(0, INTS, 5);
            for (int b : NO_BLOCKS) due(x.lend(b, 0, true), BAD);
            for (int b : NO_BLOCKS) due(x.lend(0, b, false), BAD);
            due(x.lend(0, 3, false), NONE);
            dueRow(0, 5);
        });
        promise(9, "isLent", "boolean isLent(int a, int b)");
        said("Whether two BLOCKS hold the same SAMPLES (not copies), or both nothing.", () -> {
            row(0, INTS, 5);
            x.lend(1, 0, true);
            x.lend(2, 0, false);
            due(x.isLent(0, 1), true);
            due(x.isLent(0, 2), false);
            due(x.isLent(0, 0), true);
            due(x.isLent(3, 4), true);
            due(x.isLent(0, 3), false);
        });
        said("False: also BAD.", () -> {
            for (int b : NO_BLOCKS) due(x.isLent(b, b), false);
            for (int b : NO_BLOCKS) due(x.isLent(0, b), false);
            for (int b : NO_BLOCKS) due(x.isLent(b, 0), false);
        });
        promise(10, "of", "int of(int block, int what)");
        said("The LANE of what a BLOCK holds (what = 0), how many SAMPLES (1).", () -> {
            x.block(0, FLOATS, 7);
            due(x.of(0, 0), FLOATS);
            due(x.of(0, 1), 7);
        });
        said("BAD; NONE.", () -> {
            for (int b : NO_BLOCKS) due(x.of(b, 0), BAD);
            for (int what : new int[] {-1, 2, MIN, MAX}) due(x.of(0, what), BAD);
            due(x.of(0, 1), NONE);
        });
    }

    private static void promisesOfSamples() {
        promise(11, "at", "long at(int block, int i)");
        said("BITS of a SAMPLE.", () -> {
            for (int lane = 0; lane < 4; lane++) row(lane, lane, -2);
            long[] wants = {-2L, -2L, Float.floatToIntBits(-2f), Double.doubleToLongBits(-2.0)};
            for (int lane = 0; lane < 4; lane++) {
                due(x.at(lane, 0), wants[lane]);
                dueState(0);
            }
        });
        said("0, STATE: BAD; NONE; INDEX.", () -> {
            row(0, INTS, 5);
            int[][] wrong = {{-1, 0, BAD}, {10, 0, BAD}, {1, 0, NONE}, {0, 1, INDEX}, {0, -1, INDEX}};
            for (int[] w : wrong) {
                due(x.at(w[0], w[1]), 0);
                dueState(w[2]);
            }
        });
        promise(12, "put", "int put(int block, int i, int v)");
        said("A SAMPLE becomes v, cast to the LANE: 1.", () -> {
            for (int lane = 0; lane < 4; lane++) {
                x.block(lane, lane, 2);
                due(x.put(lane, 1, 16777217), 1);
                due(x.at(lane, 0), 0);
            }
            long[] wants = {1L, 16777217L, Float.floatToIntBits(16777216f), Double.doubleToLongBits(16777217.0)};
            for (int lane = 0; lane < 4; lane++) due(x.at(lane, 1), wants[lane]);
        });
        said("BAD; NONE; INDEX. (STATE.)", () -> {
            row(0, INTS, 5);
            int[][] wrong = {{-1, 0, BAD}, {10, 0, BAD}, {1, 0, NONE}, {0, 1, INDEX}, {0, -1, INDEX}};
            for (int[] w : wrong) {
                due(x.put(w[0], w[1], 9), w[2]);
                dueState(w[2]);
            }
            x.put(0, 0, -9);
            dueState(0);
        });
        promise(13, "copy", "int copy(int from, int i, int to, int j, int n)");
        said("n SAMPLES of a BLOCK are copied by the machine to another one (also within one): 1.", () -> {
            row(0, INTS, 1, 2, 3, 4);
            x.block(1, INTS, 3);
            due(x.copy(0, 2, 1, 1, 2), 1);
            dueRow(1, 0, 3, 4);
            due(x.copy(0, 0, 0, 1, 3), 1);
            dueRow(0, 1, 1, 2, 3);
            due(x.copy(0, 1, 0, 0, 3), 1);
            dueRow(0, 1, 2, 3, 3);
        });
        said("BAD; NONE; STORE: unlike LANES; INDEX. (STATE.)", () -> {
            row(0, INTS, 1, 2);
            row(1, DOUBLES, 1, 2);
            int[][] wrong = {{10, 0, 0, 0, 1, BAD}, {0, 0, -1, 0, 1, BAD}, {2, 0, 0, 0, 1, NONE}, {0, 0, 2, 0, 1, NONE}, {0, 0, 1, 0, 1, STORE},
                {0, 0, 1, 9, 9, STORE}, {0, 0, 0, 1, 2, INDEX}, {0, 1, 0, 0, 2, INDEX}, {0, -1, 0, 0, 1, INDEX}, {0, 0, 0, 0, -1, INDEX}};
            for (int[] w : wrong) {
                due(x.copy(w[0], w[1], w[2], w[3], w[4]), w[5]);
                dueState(w[5]);
            }
            x.copy(0, 0, 0, 1, 1);
            dueState(0);
            dueRow(0, 1, 1);
        });
    }

    private static void promisesOfHandleAndFunctions() {
        promise(14, "bind", "int bind(int lane)");
        said("The handle is bound to a LANE: what it was bound to, -1 at first; BAD is -2 here.", () -> {
            due(x.bind(4), -2);
            due(x.bind(3), -1);
            for (int lane : NO_LANES) due(x.bind(lane), -2);
            due(x.bind(0), 3);
            due(x.bind(0), 0);
        });
        promise(15, "function", "int function(int kind, int a)");
        said("A FUNCTION of a kind (0 to 5) with a: its number (8 at most).", () -> {
            for (int f = 0; f < 8; f++) due(x.function(f % 6, 10 + f), f);
            due(x.count(1), 8);
            // The seventh adds 16, the eighth is the product with 17.
            due(x.find(20, 36), 6);
            due(x.find(20, 340), 7);
        });
        said("BAD; FULL.", () -> {
            for (int kind : new int[] {-1, 6, MIN, MAX}) due(x.function(kind, 0), BAD);
            for (int f = 0; f < 8; f++) due(x.function(0, f), f);
            due(x.function(0, 9), FULL);
            due(x.function(6, 9), BAD);
            due(x.count(1), 8);
        });
    }

    private static void promiseOfPlay() {
        promise(16, "play", "int play(int instrument, int way, int f, int block, int from, int n)");
        said("PLAYED: WAY 0, 1 (f does not count), 2 by FUNCTION f.", () -> {
            instruments(GLASS);
            x.bind(INTS);
            x.knob(0, 0, 3);
            x.function(PLUS, 10);
            x.function(PLUS, 20);
            x.block(0, INTS, 1);
            int[][] wants = {{0, 0, 3}, {0, 99, 3}, {0, -1, 3}, {1, 0, 3}, {1, 99, 3}, {1, -1, 3}, {2, 0, 13}, {2, 1, 23}};
            for (int[] w : wants) {
                due(x.play(0, w[0], w[1], 0, 0, 1), 1);
                dueRow(0, w[2]);
            }
        });
        said("BAD: INSTRUMENT, WAY, BLOCK, FUNCTION; FAILURES. (STATE.)", () -> {
            instruments(DRUM);
            x.function(SAME, 0);
            row(0, INTS, 7);
            int[][] bad = {{1, 0, 0, 0}, {-1, 0, 0, 0}, {0, 3, 0, 0}, {0, -1, 0, 0}, {0, 0, 0, 10}, {0, 0, 0, -1}, {0, 2, 1, 0}, {0, 2, -1, 0}};
            for (int[] b : bad) {
                x.knob(0, 0, 0);
                due(x.play(b[0], b[1], b[2], b[3], 0, 1), BAD);
                dueState(BAD);
            }
            dueUntouched(7);
            due(x.play(0, 0, 0, 0, 0, 1), ZERO);
            dueState(ZERO);
        });
    }

    private static void promisesOfAsking() {
        promise(17, "agree", "boolean agree(int instrument, int f, int n)");
        said("Whether n (0 to 40) SAMPLES that copies of an INSTRUMENT as it is now give are alike (by ==, as doubles) "
            + "in WAY 0 and in WAY 2 by FUNCTION f, up to the first FAILURE, and that is the same, at the same one.", () -> {
            instruments(TONE, DRUM);
            x.note(0, 1, true);
            x.function(SAME, 0);
            x.function(GREATER, -126);
            x.function(UNLESS, -126);
            x.function(PLUS, 1);
            due(x.agree(0, 0, 40), true);
            due(x.agree(0, 1, 2), false);
            due(x.agree(0, 2, 2), true);
            due(x.agree(0, 2, 3), false);
            due(x.agree(0, 3, 0), true);
            x.phase(0, 2);
            due(x.agree(0, 1, 40), true);
            due(x.agree(0, 2, 1), false);
            due(x.agree(1, 3, 40), true);
        });
        said("False: also BAD.", () -> {
            instruments(TONE);
            x.function(SAME, 0);
            due(x.agree(1, 0, 0), false);
            due(x.agree(0, 1, 0), false);
            due(x.agree(0, 0, -1), false);
            due(x.agree(0, 0, 41), false);
        });
        said("(The INSTRUMENT stays as it is.)", () -> {
            instruments(BELL);
            x.knob(0, 1, 2);
            x.knob(0, 2, 9);
            x.note(0, 64, true);
            x.function(SAME, 0);
            due(x.agree(0, 0, 40), true);
            dueNext(0, 64.0);
            due(x.phase(0, 0), 0);
            due(x.count(4), 0);
        });
        promise(18, "find", "int find(int x, int y)");
        said("The first FUNCTION by which x goes to y (as doubles; FAILURES are none); -1.", () -> {
            x.function(UNLESS, 5);
            x.function(PLUS, 1);
            x.function(TIMES, 2);
            x.function(SAME, 0);
            due(x.find(6, 6), 0);
            due(x.find(5, 5), 3);
            due(x.find(1, 2), 1);
            due(x.find(5, 10), 2);
            due(x.find(MAX, MIN), -1);
            due(x.find(5, 11), -1);
        });
        promise(19, "next", "long next(int instrument)");
        said("BITS (of a double) of what an INSTRUMENT would give next, it staying as it is.", () -> {
            instruments(DRUM);
            x.knob(0, 1, 2);
            x.note(0, 64, true);
            dueNext(0, 64.0);
            dueNext(0, 64.0);
            due(x.phase(0, 0), 0);
            pass(0, 1);
            dueNext(0, 32.0);
        });
        said("0, STATE: BAD; FAILURES.", () -> {
            due(x.next(0), 0);
            dueState(BAD);
            for (int cause = OWN; cause >= SIZE; cause--) {
                x = new CallWays2();
                failing(cause);
                dueFailure(0, cause);
            }
        });
    }

    private static void promisesOfStateAndCount() {
        promise(20, "state", "int state()");
        said("STATE: what the latest call that says so, knob(), phase(), next() came to: 0, or what it was below 0.", () -> {
            dueState(0);
            instruments(TONE);
            row(0, INTS, 5);
            Runnable[] well = {() -> x.knob(0, 0, -1), () -> x.knob(0, 0, -1), () -> x.phase(0, -1), () -> x.phase(0, -1), () -> x.next(0),
                () -> x.at(0, 0), () -> x.put(0, 0, -5), () -> x.at(0, 0), () -> x.copy(0, 0, 0, 0, 1), () -> x.play(0, 0, 0, 0, 0, 1)};
            for (Runnable call : well) {
                x.knob(9, 0, 0);
                dueState(BAD);
                call.run();
                dueState(0);
            }
            Runnable[] silent = {() -> x.instrument(9), () -> x.note(9, 0, true), () -> x.table(9, 0, true), () -> x.block(1, 1, -1), () -> x.lend(1, 2, false),
                () -> x.isLent(9, 10), () -> x.of(10, 0), () -> x.bind(9), () -> x.function(9, 0), () -> x.agree(9, 0, 0), () -> x.find(1, 2), () -> x.count(9)};
            for (Runnable call : silent) {
                call.run();
                dueState(0);
            }
        });
        promise(21, "count", "int count(int what)");
        said("0 INSTRUMENTS, 1 FUNCTIONS, 2 PLAYED well, 3 PLAYED that FAILED, 4 SAMPLES that were asked of INSTRUMENTS in PLAYED.", () -> {
            instruments(TONE, DRUM);
            x.function(SAME, 0);
            x.function(SAME, 0);
            x.function(SAME, 0);
            x.block(0, INTS, 9);
            for (int n = 6; n <= 9; n++) x.play(0, 0, 0, 0, 0, n);
            for (int i = 0; i < 5; i++) x.play(1, 0, 0, 0, 0, 9);
            int[] wants = {2, 3, 4, 5, 35};
            for (int what = 0; what < 5; what++) due(x.count(what), wants[what]);
        });
        said("BAD.", () -> {
            for (int what : new int[] {-1, 5, MIN, MAX}) due(x.count(what), BAD);
        });
    }

    private static void notPromised() {
        unplayed("## Not promised How the state is held inside the object is free, as are the speed of each call, the text of toString and "
            + "the behaviour of equals and hashCode. Use of one object from several threads at once is not promised to be safe. Nothing is "
            + "promised beyond the answers and state changes described above, and nothing about an object after its 512th call.", "free");
    }
}
