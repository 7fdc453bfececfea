/**
 * Instruments that are played by members, by a handle bound to a lane, or by function objects, into
 * blocks of samples. What goes wrong becomes silence and a cause, never an exception.
 */
public final class CallWays2 {
    public static final int BAD = -1, FULL = -2, OWN = -3, ZERO = -4, NONE = -5, KIND = -6, INDEX = -7, SIZE = -8, STORE = -9;

    private static final int SHORTS = 0, INTS = 1, FLOATS = 2, DOUBLES = 3;
    private static final int TONE = 0, GLASS = 1, DRUM = 2, BELL = 3, READER = 4;
    private static final int BY_MEMBERS = 0, BY_HANDLE = 1, BY_FUNCTION = 2;
    private static final int SUM = 0, PRODUCT = 1, LESSER = 2, GREATER = 3, UNLESS_ALIKE = 5;
    private static final int MOST_INSTRUMENTS = 12, MOST_BLOCKS = 10, MOST_FUNCTIONS = 8;
    private static final int MOST_SAMPLES = 40, MOST_PITCH = 127;
    private static final int UNBOUND = -1, NO_BLOCK = -1, NOT_FOUND = -1, BAD_BINDING = -2;
    private static final long FLOAT_SIGN = -1L << 31, DOUBLE_SIGN = -1L << 63;

    private final Instrument[] instruments = new Instrument[MOST_INSTRUMENTS];
    private final Function[] functions = new Function[MOST_FUNCTIONS];
    private final Samples[] blocks = new Samples[MOST_BLOCKS];
    // A reader may read the very block it is played into, so samples wait here until all have come.
    private final double[] draft = new double[MOST_SAMPLES];
    private final Bits bits = new Bits();
    private int instrumentCount = 0;
    private int functionCount = 0;
    private int playedWell = 0;
    private int playedFailed = 0;
    private int samplesAsked = 0;
    private int boundLane = UNBOUND;
    private int latest = 0;

    public CallWays2() {
    }

    public int instrument(int sort) {
        if (sort < TONE || sort > READER) {
            return BAD;
        }
        if (instrumentCount >= MOST_INSTRUMENTS) {
            return FULL;
        }
        instruments[instrumentCount] = newInstrument(sort);
        instrumentCount++;
        return instrumentCount - 1;
    }

    public int note(int instrument, int pitch, boolean on) {
        Instrument player = instrumentAt(instrument);
        if (player == null || pitch < 0 || pitch > MOST_PITCH) {
            return BAD;
        }
        int wasOn = player.on ? 1 : 0;
        player.sound(pitch, on);
        return wasOn;
    }

    public int knob(int instrument, int k, int v) {
        Instrument player = instrumentAt(instrument);
        if (player == null || k < 0 || k >= player.knobs.length) {
            latest = BAD;
            return 0;
        }
        int before = player.knobs[k];
        player.knobs[k] = v;
        latest = 0;
        return before;
    }

    public int phase(int instrument, int v) {
        Instrument player = instrumentAt(instrument);
        if (player == null) {
            latest = BAD;
            return 0;
        }
        int before = player.phase;
        player.phase = v;
        latest = 0;
        return before;
    }

    public int table(int instrument, int block, boolean lent) {
        Instrument player = instrumentAt(instrument);
        if (player == null || (block != NO_BLOCK && !isBlock(block))) {
            return BAD;
        }
        Samples held = block == NO_BLOCK ? null : blocks[block];
        player.table = held == null || lent ? held : held.twin();
        return 1;
    }

    public int block(int block, int lane, int n) {
        if (!isBlock(block) || !isLane(lane) || n > MOST_SAMPLES) {
            return BAD;
        }
        if (n < 0) {
            return SIZE;
        }
        blocks[block] = new Samples(lane, new double[n]);
        return 1;
    }

    public int lend(int block, int from, boolean lent) {
        if (!isBlock(block) || !isBlock(from)) {
            return BAD;
        }
        Samples held = blocks[from];
        if (lent) {
            blocks[block] = held;
            return 1;
        }
        if (held == null) {
            return NONE;
        }
        blocks[block] = held.twin();
        return 1;
    }

    public boolean isLent(int a, int b) {
        return isBlock(a) && isBlock(b) && blocks[a] == blocks[b];
    }

    public int of(int block, int what) {
        if (!isBlock(block) || what < 0 || what > 1) {
            return BAD;
        }
        Samples held = blocks[block];
        if (held == null) {
            return NONE;
        }
        return what == 0 ? held.lane : held.row.length;
    }

    public long at(int block, int i) {
        latest = refusalOfPlace(block, i);
        if (latest != 0) {
            return 0L;
        }
        Samples held = blocks[block];
        double sample = held.row[i];
        switch (held.lane) {
            case FLOATS:
                return bits.ofFloat(sample);
            case DOUBLES:
                return bits.ofDouble(sample);
            default:
                return (long) sample;
        }
    }

    public int put(int block, int i, int v) {
        latest = refusalOfPlace(block, i);
        if (latest != 0) {
            return latest;
        }
        Samples held = blocks[block];
        held.row[i] = held.turned((double) v);
        return 1;
    }

    public int copy(int from, int i, int to, int j, int n) {
        latest = refusalOfCopy(from, i, to, j, n);
        if (latest != 0) {
            return latest;
        }
        System.arraycopy(blocks[from].row, i, blocks[to].row, j, n);
        return 1;
    }

    public int bind(int lane) {
        if (!isLane(lane)) {
            return BAD_BINDING;
        }
        int before = boundLane;
        boundLane = lane;
        return before;
    }

    public int function(int kind, int a) {
        if (kind < SUM || kind > UNLESS_ALIKE) {
            return BAD;
        }
        if (functionCount >= MOST_FUNCTIONS) {
            return FULL;
        }
        functions[functionCount] = new Function(kind, (double) a);
        functionCount++;
        return functionCount - 1;
    }

    public int play(int instrument, int way, int f, int block, int from, int n) {
        Instrument player = instrumentAt(instrument);
        Function shaper = way == BY_FUNCTION ? functionAt(f) : null;
        boolean lacksFunction = way == BY_FUNCTION && shaper == null;
        if (player == null || way < BY_MEMBERS || way > BY_FUNCTION || !isBlock(block) || lacksFunction) {
            latest = BAD;
            return BAD;
        }
        Samples target = blocks[block];
        int answer = refusalOfTarget(target, way, from, n);
        if (answer == 0) {
            answer = perform(player, shaper, target, from, n);
        }
        if (answer < 0) {
            playedFailed++;
        } else {
            playedWell++;
        }
        latest = Math.min(answer, 0);
        return answer;
    }

    public boolean agree(int instrument, int f, int n) {
        Instrument player = instrumentAt(instrument);
        Function shaper = functionAt(f);
        if (player == null || shaper == null || n < 0 || n > MOST_SAMPLES) {
            return false;
        }
        int phaseBefore = player.phase;
        double levelBefore = player.level;
        boolean alike = staysAlike(player, shaper, n);
        player.goBack(phaseBefore, levelBefore);
        return alike;
    }

    public int find(int x, int y) {
        double given = (double) x;
        double wanted = (double) y;
        for (int f = 0; f < functionCount; f++) {
            Function shaper = functions[f];
            if (!shaper.refuses(given) && shaper.shaped(given) == wanted) {
                return f;
            }
        }
        return NOT_FOUND;
    }

    public long next(int instrument) {
        Instrument player = instrumentAt(instrument);
        if (player == null) {
            latest = BAD;
            return 0L;
        }
        int phaseBefore = player.phase;
        double levelBefore = player.level;
        double sample = player.ask();
        player.goBack(phaseBefore, levelBefore);
        latest = player.failure;
        return latest == 0 ? bits.ofDouble(sample) : 0L;
    }

    public int state() {
        return latest;
    }

    public int count(int what) {
        switch (what) {
            case 0:
                return instrumentCount;
            case 1:
                return functionCount;
            case 2:
                return playedWell;
            case 3:
                return playedFailed;
            case 4:
                return samplesAsked;
            default:
                return BAD;
        }
    }

    private static Instrument newInstrument(int sort) {
        switch (sort) {
            case TONE:
                return new Tone();
            case GLASS:
                return new Glass();
            case DRUM:
                return new Drum();
            case BELL:
                return new Bell();
            default:
                return new Reader();
        }
    }

    private Instrument instrumentAt(int number) {
        return number >= 0 && number < instrumentCount ? instruments[number] : null;
    }

    private Function functionAt(int number) {
        return number >= 0 && number < functionCount ? functions[number] : null;
    }

    private static boolean isBlock(int number) {
        return number >= 0 && number < MOST_BLOCKS;
    }

    private static boolean isLane(int number) {
        return number >= SHORTS && number <= DOUBLES;
    }

    private int refusalOfPlace(int block, int i) {
        if (!isBlock(block)) {
            return BAD;
        }
        Samples held = blocks[block];
        if (held == null) {
            return NONE;
        }
        return held.hasPlaces(i, 1) ? 0 : INDEX;
    }

    private int refusalOfCopy(int from, int i, int to, int j, int n) {
        if (!isBlock(from) || !isBlock(to)) {
            return BAD;
        }
        Samples source = blocks[from];
        Samples target = blocks[to];
        if (source == null || target == null) {
            return NONE;
        }
        if (source.lane != target.lane) {
            return STORE;
        }
        return source.hasPlaces(i, n) && target.hasPlaces(j, n) ? 0 : INDEX;
    }

    private int refusalOfTarget(Samples target, int way, int from, int n) {
        if (target == null) {
            return NONE;
        }
        if (way == BY_HANDLE && boundLane != target.lane) {
            return KIND;
        }
        if (n < 0) {
            return SIZE;
        }
        return target.hasPlaces(from, n) ? 0 : INDEX;
    }

    /** The places from .. from + n - 1 are known to be there; shaper is null unless the way is by function. */
    private int perform(Instrument player, Function shaper, Samples target, int from, int n) {
        for (int i = 0; i < n; i++) {
            double sample = player.ask();
            samplesAsked++;
            int failure = player.failure;
            if (failure == 0 && shaper != null) {
                failure = shaper.refuses(sample) ? OWN : 0;
                sample = shaper.shaped(sample);
            }
            if (failure != 0) {
                target.silence(from, n);
                return failure;
            }
            draft[i] = target.turned(sample);
        }
        System.arraycopy(draft, 0, target.row, from, n);
        return n;
    }

    /** One asking serves both ways: copies of one instrument give the same samples and fail alike. */
    private static boolean staysAlike(Instrument player, Function shaper, int n) {
        for (int i = 0; i < n; i++) {
            double sample = player.ask();
            if (player.failure != 0) {
                return true;
            }
            if (shaper.refuses(sample) || shaper.shaped(sample) != sample) {
                return false;
            }
        }
        return true;
    }

    /** What a block or a table holds. A double holds every short, int and float exactly. */
    private static final class Samples {
        final int lane;
        final double[] row;

        Samples(int lane, double[] row) {
            this.lane = lane;
            this.row = row;
        }

        Samples twin() {
            return new Samples(lane, row.clone());
        }

        boolean hasPlaces(int from, int n) {
            return from >= 0 && n >= 0 && n <= row.length - from;
        }

        double turned(double sample) {
            switch (lane) {
                case SHORTS:
                    return (double) (short) (int) sample;
                case INTS:
                    return (double) (int) sample;
                case FLOATS:
                    return (double) (float) sample;
                default:
                    return sample;
            }
        }

        void silence(int from, int n) {
            for (int i = 0; i < n; i++) {
                row[from + i] = 0.0;
            }
        }
    }

    private abstract static class Instrument {
        final int[] knobs = new int[4];
        int pitch = 0;
        boolean on = false;
        int phase = 0;
        double level = 0.0;
        Samples table = null;
        /** The cause why the latest sample asked did not come, or 0. */
        int failure = 0;

        abstract double sample();

        final double ask() {
            failure = 0;
            double given = sample();
            phase++;
            return given;
        }

        final double fail(int cause) {
            failure = cause;
            return 0.0;
        }

        final void goBack(int earlierPhase, double earlierLevel) {
            phase = earlierPhase;
            level = earlierLevel;
        }

        void sound(int newPitch, boolean newOn) {
            pitch = newPitch;
            on = newOn;
        }
    }

    private static class Tone extends Instrument {
        double sample() {
            return on ? (double) (phase * pitch % 256 - 128) : 0.0;
        }
    }

    private static final class Glass extends Tone {
        double sample() {
            return 2.0 * super.sample() + (double) knobs[0];
        }
    }

    private static class Drum extends Instrument {
        double sample() {
            int divisor = knobs[1];
            if (divisor == 0) {
                return fail(ZERO);
            }
            double given = level;
            level = level * (double) (1000 / divisor) / 1000.0;
            return given;
        }

        void sound(int newPitch, boolean newOn) {
            super.sound(newPitch, newOn);
            if (newOn) {
                level = (double) newPitch;
            }
        }
    }

    private static final class Bell extends Drum {
        double sample() {
            if (phase == knobs[2]) {
                return fail(OWN);
            }
            double given = super.sample();
            // Not % 2 == 1: a phase below 0 may be odd too.
            boolean isOdd = (phase & 1) == 1;
            return isOdd ? -1.0 * given : given;
        }
    }

    private static final class Reader extends Instrument {
        double sample() {
            // The row of phase % 8 ints would be let go at once, so only its length matters.
            if (!on && phase % 8 < 0) {
                return fail(SIZE);
            }
            if (table == null) {
                return fail(NONE);
            }
            if (table.lane != INTS) {
                return fail(KIND);
            }
            int place = phase + knobs[0];
            if (!table.hasPlaces(place, 1)) {
                return fail(INDEX);
            }
            return table.row[place];
        }
    }

    private static final class Function {
        private final int kind;
        private final double a;

        Function(int kind, double a) {
            this.kind = kind;
            this.a = a;
        }

        boolean refuses(double x) {
            return kind == UNLESS_ALIKE && x == a;
        }

        double shaped(double x) {
            switch (kind) {
                case SUM:
                    return x + a;
                case PRODUCT:
                    return x * a;
                case LESSER:
                    // a is never -0.0, x may be: of two zeros the lesser is then x, the greater a.
                    return a < x ? a : x;
                case GREATER:
                    return x > a ? x : a;
                default:
                    // Kind 4, and 5 where it does not refuse x.
                    return x;
            }
        }
    }

    /** The bits of a number by arithmetic alone. No sample is infinite or no number at all. */
    private static final class Bits {
        /** At k stands 2 to the power of 2 to the power of k. */
        private final double[] powers = new double[10];

        Bits() {
            double power = 2.0;
            for (int k = 0; k < powers.length; k++) {
                powers[k] = power;
                // The square of the last one would be infinite.
                power = k < powers.length - 1 ? power * power : power;
            }
        }

        long ofFloat(double x) {
            long size = sizeBits(x < 0.0 ? 0.0 - x : x, 127, 23);
            return isSigned(x) ? size + FLOAT_SIGN : size;
        }

        long ofDouble(double x) {
            long size = sizeBits(x < 0.0 ? 0.0 - x : x, 1023, 52);
            return isSigned(x) ? size + DOUBLE_SIGN : size;
        }

        /** Only a division tells -0.0 from 0.0; it answers an infinity. */
        private static boolean isSigned(double x) {
            return x < 0.0 || (x == 0.0 && 1.0 / x < 0.0);
        }

        /**
         * Brings x to 1 .. 2, or as near as the lowest exponent lets it come. Below 1 the exponent is
         * then the lowest one, and the same sum gives the bits of a subnormal number and of zero.
         */
        private long sizeBits(double x, int bias, int fractionBits) {
            int lowest = 1 - bias;
            int exponent = 0;
            double rest = x;
            for (int k = powers.length - 1; k >= 0; k--) {
                int step = 1 << k;
                if (rest >= powers[k]) {
                    rest = rest / powers[k];
                    exponent += step;
                } else if (exponent - step >= lowest && rest * powers[k] < 2.0) {
                    rest = rest * powers[k];
                    exponent -= step;
                }
            }
            long fraction = (long) (rest * (double) (1L << fractionBits));
            return ((long) (exponent - lowest) << fractionBits) + fraction;
        }
    }
}
