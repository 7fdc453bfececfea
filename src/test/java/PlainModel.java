import java.lang.reflect.Array;
import java.util.ArrayList;
import java.util.List;
import java.util.function.DoubleUnaryOperator;

/**
 * The document told again with all that CallWays2 may not use: typed arrays, the machine's own
 * exceptions, lambdas and the library's bits. Being built so differently, it seldom errs alike.
 */
final class PlainModel {
    private static final int BAD = -1, FULL = -2, OWN = -3, ZERO = -4, NONE = -5, KIND = -6, INDEX = -7, SIZE = -8, STORE = -9;
    private static final Class<?>[] LANES = {short.class, int.class, float.class, double.class};

    private static final class OwnFailure extends RuntimeException {
        private static final long serialVersionUID = 1L;
    }

    private static final class Player implements Cloneable {
        final int sort;
        int[] knobs = new int[4];
        int pitch;
        boolean on;
        int phase;
        double level;
        Object table;

        Player(int sort) {
            this.sort = sort;
        }

        Player twin() {
            Player p = new Player(sort);
            p.knobs = knobs.clone();
            p.pitch = pitch;
            p.on = on;
            p.phase = phase;
            p.level = level;
            p.table = table;
            return p;
        }

        double ask() {
            try {
                return sample();
            } finally {
                phase++;
            }
        }

        private double sample() {
            switch (sort) {
                case 0:
                    return tone();
                case 1:
                    return 2.0 * tone() + knobs[0];
                case 2:
                    return drum();
                case 3:
                    if (phase == knobs[2]) throw new OwnFailure();
                    double d = drum();
                    return Math.floorMod(phase, 2) == 1 ? -1.0 * d : d;
                default:
                    if (!on) {
                        int[] row = new int[phase % 8];
                        if (row.length > 7) throw new IllegalStateException();
                    }
                    return ((int[]) table)[phase + knobs[0]];
            }
        }

        private int tone() {
            return on ? (phase * pitch) % 256 - 128 : 0;
        }

        private double drum() {
            double given = level;
            level = level * (double) (1000 / knobs[1]) / 1000.0;
            return given;
        }
    }

    private final List<Player> players = new ArrayList<>();
    private final List<DoubleUnaryOperator> functions = new ArrayList<>();
    private final Object[] blocks = new Object[10];
    private int bound = -1;
    private int state = 0;
    private int well = 0;
    private int failed = 0;
    private int asked = 0;

    private static int cause(RuntimeException e) {
        if (e instanceof OwnFailure) return OWN;
        if (e instanceof ArithmeticException) return ZERO;
        if (e instanceof NullPointerException) return NONE;
        if (e instanceof ClassCastException) return KIND;
        if (e instanceof NegativeArraySizeException) return SIZE;
        if (e instanceof ArrayStoreException) return STORE;
        if (e instanceof IndexOutOfBoundsException) return INDEX;
        throw e;
    }

    private boolean hasPlayer(int i) {
        return i >= 0 && i < players.size();
    }

    private static boolean hasBlock(int b) {
        return b >= 0 && b < 10;
    }

    private static Object twin(Object row) {
        if (row == null) return null;
        int n = Array.getLength(row);
        Object made = Array.newInstance(row.getClass().getComponentType(), n);
        System.arraycopy(row, 0, made, 0, n);
        return made;
    }

    private static int laneOf(Object row) {
        for (int lane = 0; lane < 4; lane++) {
            if (row.getClass().getComponentType() == LANES[lane]) return lane;
        }
        throw new IllegalStateException();
    }

    private static void set(Object row, int i, double v) {
        if (row instanceof short[]) ((short[]) row)[i] = (short) (int) v;
        else if (row instanceof int[]) ((int[]) row)[i] = (int) v;
        else if (row instanceof float[]) ((float[]) row)[i] = (float) v;
        else ((double[]) row)[i] = v;
    }

    int instrument(int sort) {
        if (sort < 0 || sort > 4) return BAD;
        if (players.size() == 12) return FULL;
        players.add(new Player(sort));
        return players.size() - 1;
    }

    int note(int instrument, int pitch, boolean on) {
        if (!hasPlayer(instrument) || pitch < 0 || pitch > 127) return BAD;
        Player p = players.get(instrument);
        int was = p.on ? 1 : 0;
        p.pitch = pitch;
        p.on = on;
        if (on) p.level = pitch;
        return was;
    }

    int knob(int instrument, int k, int v) {
        if (!hasPlayer(instrument) || k < 0 || k > 3) {
            state = BAD;
            return 0;
        }
        state = 0;
        int was = players.get(instrument).knobs[k];
        players.get(instrument).knobs[k] = v;
        return was;
    }

    int phase(int instrument, int v) {
        if (!hasPlayer(instrument)) {
            state = BAD;
            return 0;
        }
        state = 0;
        int was = players.get(instrument).phase;
        players.get(instrument).phase = v;
        return was;
    }

    int table(int instrument, int block, boolean lent) {
        if (!hasPlayer(instrument) || block < -1 || block > 9) return BAD;
        Object row = block == -1 ? null : blocks[block];
        players.get(instrument).table = lent ? row : twin(row);
        return 1;
    }

    int block(int block, int lane, int n) {
        if (!hasBlock(block) || lane < 0 || lane > 3 || n > 40) return BAD;
        try {
            blocks[block] = Array.newInstance(LANES[lane], n);
            return 1;
        } catch (NegativeArraySizeException e) {
            return SIZE;
        }
    }

    int lend(int block, int from, boolean lent) {
        if (!hasBlock(block) || !hasBlock(from)) return BAD;
        if (!lent && blocks[from] == null) return NONE;
        blocks[block] = lent ? blocks[from] : twin(blocks[from]);
        return 1;
    }

    boolean isLent(int a, int b) {
        return hasBlock(a) && hasBlock(b) && blocks[a] == blocks[b];
    }

    int of(int block, int what) {
        if (!hasBlock(block) || what < 0 || what > 1) return BAD;
        if (blocks[block] == null) return NONE;
        return what == 0 ? laneOf(blocks[block]) : Array.getLength(blocks[block]);
    }

    long at(int block, int i) {
        state = 0;
        if (!hasBlock(block)) {
            state = BAD;
            return 0;
        }
        try {
            Object row = blocks[block];
            Object sample = Array.get(row, i);
            if (sample instanceof Float) return Float.floatToIntBits((Float) sample);
            if (sample instanceof Double) return Double.doubleToLongBits((Double) sample);
            return ((Number) sample).longValue();
        } catch (NullPointerException | IndexOutOfBoundsException e) {
            state = cause(e);
            return 0;
        }
    }

    int put(int block, int i, int v) {
        state = 0;
        if (!hasBlock(block)) return state = BAD;
        if (blocks[block] == null) return state = NONE;
        try {
            Object row = blocks[block];
            if (row instanceof short[]) ((short[]) row)[i] = (short) v;
            else if (row instanceof int[]) ((int[]) row)[i] = v;
            else if (row instanceof float[]) ((float[]) row)[i] = (float) v;
            else ((double[]) row)[i] = v;
            return 1;
        } catch (IndexOutOfBoundsException e) {
            return state = INDEX;
        }
    }

    int copy(int from, int i, int to, int j, int n) {
        state = 0;
        if (!hasBlock(from) || !hasBlock(to)) return state = BAD;
        try {
            System.arraycopy(blocks[from], i, blocks[to], j, n);
            return 1;
        } catch (NullPointerException | ArrayStoreException | IndexOutOfBoundsException e) {
            return state = cause(e);
        }
    }

    int bind(int lane) {
        if (lane < 0 || lane > 3) return -2;
        int was = bound;
        bound = lane;
        return was;
    }

    int function(int kind, int a) {
        if (kind < 0 || kind > 5) return BAD;
        if (functions.size() == 8) return FULL;
        double d = a;
        DoubleUnaryOperator own = x -> {
            if (x == d) throw new OwnFailure();
            return x;
        };
        DoubleUnaryOperator[] kinds = {x -> x + d, x -> x * d, x -> Math.min(x, d), x -> Math.max(x, d), x -> x, own};
        functions.add(kinds[kind]);
        return functions.size() - 1;
    }

    int play(int instrument, int way, int f, int block, int from, int n) {
        if (!hasPlayer(instrument) || way < 0 || way > 2 || !hasBlock(block)) return state = BAD;
        if (way == 2 && (f < 0 || f >= functions.size())) return state = BAD;
        int answer = played(players.get(instrument), way == 2 ? functions.get(f) : x -> x, way, blocks[block], from, n);
        if (answer < 0) failed++;
        else well++;
        state = answer < 0 ? answer : 0;
        return answer;
    }

    private int played(Player p, DoubleUnaryOperator f, int way, Object row, int from, int n) {
        if (row == null) return NONE;
        if (way == 1 && bound != laneOf(row)) return KIND;
        if (n < 0) return SIZE;
        if (from < 0 || (long) from + n > Array.getLength(row)) return INDEX;
        double[] came = new double[n];
        try {
            for (int i = 0; i < n; i++) {
                asked++;
                came[i] = f.applyAsDouble(p.ask());
            }
        } catch (RuntimeException e) {
            for (int i = 0; i < n; i++) set(row, from + i, 0.0);
            return cause(e);
        }
        for (int i = 0; i < n; i++) set(row, from + i, came[i]);
        return n;
    }

    boolean agree(int instrument, int f, int n) {
        if (!hasPlayer(instrument) || f < 0 || f >= functions.size() || n < 0 || n > 40) return false;
        double[] plain = new double[n];
        double[] shaped = new double[n];
        int[] plainEnd = given(players.get(instrument).twin(), x -> x, plain);
        int[] shapedEnd = given(players.get(instrument).twin(), functions.get(f), shaped);
        for (int i = 0; i < Math.min(plainEnd[0], shapedEnd[0]); i++) {
            if (plain[i] != shaped[i]) return false;
        }
        return plainEnd[0] == shapedEnd[0] && plainEnd[1] == shapedEnd[1];
    }

    /** How many samples came, and the failure that ended them (0: none did). */
    private static int[] given(Player p, DoubleUnaryOperator f, double[] into) {
        for (int i = 0; i < into.length; i++) {
            try {
                into[i] = f.applyAsDouble(p.ask());
            } catch (RuntimeException e) {
                return new int[] {i, cause(e)};
            }
        }
        return new int[] {into.length, 0};
    }

    int find(int x, int y) {
        for (int f = 0; f < functions.size(); f++) {
            try {
                if (functions.get(f).applyAsDouble(x) == y) return f;
            } catch (OwnFailure e) {
                continue;
            }
        }
        return -1;
    }

    long next(int instrument) {
        state = 0;
        if (!hasPlayer(instrument)) {
            state = BAD;
            return 0;
        }
        try {
            return Double.doubleToLongBits(players.get(instrument).twin().ask());
        } catch (RuntimeException e) {
            state = cause(e);
            return 0;
        }
    }

    int state() {
        return state;
    }

    int count(int what) {
        int[] counts = {players.size(), functions.size(), well, failed, asked};
        return what < 0 || what > 4 ? BAD : counts[what];
    }
}
