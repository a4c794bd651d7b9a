import java.util.Arrays;
import java.util.NoSuchElementException;

/**
 * Secrets are wrapped for keys made of small matrices with errors, and unwrapped again; whatever
 * was changed on its way is answered by a secret that says nothing.
 *
 * <p>Every row and matrix is made once, in the constructors, and used again by all calls: a call
 * that throws nothing makes no object.
 */
public final class LatticeWraps {
    private static final int PLACES = 4;
    private static final int PUBLIC_BYTES = 68;
    private static final int WRAP_BYTES = 90;
    private static final int SEED_BYTES = 8;
    private static final int X_BYTES = 60;

    /** The rows and columns of A. */
    private static final int WIDE = 8;
    /** The columns of S, and the rows of S'. */
    private static final int NARROW = 4;

    private static final int ENTRY_BITS = 15;
    private static final int ENTRY_MASK = 32767;
    /** What one step of a two-bit code is worth in an entry. */
    private static final int STEP = 8192;
    private static final int HALF_STEP = 4096;

    private static final int KEY_NOISE = 95;
    private static final int WRAP_NOISE = 150;

    private static final int LANES = 25;
    /** A row of 168 bytes fills the lanes 0 .. 20. */
    private static final int LAST_LANE_OF_ROW = 20;

    private static final int[] SAMPLE_BOUNDS = {
        4643, 13363, 20579, 25843, 29227, 31145, 32103, 32525, 32689, 32745, 32762, 32766
    };

    /** Where step 2 of F moves the lane x + 5 * y to. */
    private static final int[] LANE_GOES_TO = {
        0, 10, 20, 5, 15,
        16, 1, 11, 21, 6,
        7, 17, 2, 12, 22,
        23, 8, 18, 3, 13,
        14, 24, 9, 19, 4
    };

    /** By how many bits step 2 of F turns the lane x + 5 * y. */
    private static final int[] LANE_TURNS = {
        0, 1, 62, 28, 27,
        36, 44, 6, 55, 20,
        3, 10, 43, 25, 39,
        41, 45, 15, 21, 8,
        18, 2, 61, 56, 14
    };

    /** The bits that step 4 of F turns over, round by round. */
    private static final long[] ROUND_BITS = {
        0x0000000000000001L, 0x0000000000008082L, 0x800000000000808AL, 0x8000000080008000L,
        0x000000000000808BL, 0x0000000080000001L, 0x8000000080008081L, 0x8000000000008009L,
        0x000000000000008AL, 0x0000000000000088L, 0x0000000080008009L, 0x000000008000000AL,
        0x000000008000808BL, 0x800000000000008BL, 0x8000000000008089L, 0x8000000000008003L,
        0x8000000000008002L, 0x8000000000000080L, 0x000000000000800AL, 0x800000008000000AL,
        0x8000000080008081L, 0x8000000000008080L, 0x0000000080000001L, 0x8000000080008008L
    };

    private final Key[] keys = new Key[PLACES];
    private final Wrap[] wraps = new Wrap[PLACES];
    private final Desk desk = new Desk();

    public LatticeWraps() {
        for (int place = 0; place < PLACES; place++) {
            keys[place] = new Key();
            wraps[place] = new Wrap();
        }
    }

    public long make(int key, long s, long e, long z) throws IllegalArgumentException {
        refuseNoPlace(key);
        keys[key].fillFrom(s, e, z, desk.shaker);
        return keys[key].mark;
    }

    public long wrap(int wrap, int key, int m)
            throws IllegalArgumentException, NoSuchElementException {
        refuseNoPlace(wrap);
        refuseNoPlace(key);
        refuseEmpty(keys[key].full);
        long secret = desk.seal(m, keys[key], wraps[wrap].row);
        wraps[wrap].full = true;
        return secret;
    }

    public long unwrap(int wrap, int key) throws IllegalArgumentException, NoSuchElementException {
        refuseUnreadable(wrap, key);
        return desk.unseal(wraps[wrap].row, keys[key]);
    }

    public int change(int wrap, int i, int x)
            throws IllegalArgumentException, NoSuchElementException, IndexOutOfBoundsException {
        refuseNoWrapByte(wrap, i);
        wraps[wrap].row[i] ^= x & 255;
        return wraps[wrap].row[i];
    }

    public void copy(int from, int to) throws IllegalArgumentException, NoSuchElementException {
        refuseNoPlace(from);
        refuseNoPlace(to);
        refuseEmpty(wraps[from].full);
        System.arraycopy(wraps[from].row, 0, wraps[to].row, 0, WRAP_BYTES);
        wraps[to].full = true;
    }

    public boolean forget(boolean key, int place) throws IllegalArgumentException {
        refuseNoPlace(place);
        boolean was = key ? keys[place].full : wraps[place].full;
        if (key) {
            keys[place].full = false;
        } else {
            wraps[place].full = false;
        }
        return was;
    }

    public int wrapByte(int wrap, int i)
            throws IllegalArgumentException, NoSuchElementException, IndexOutOfBoundsException {
        refuseNoWrapByte(wrap, i);
        return wraps[wrap].row[i];
    }

    public int publicByte(int key, int i)
            throws IllegalArgumentException, NoSuchElementException, IndexOutOfBoundsException {
        refuseNoPlace(key);
        refuseEmpty(keys[key].full);
        refuseOutside(i >= 0 && i < PUBLIC_BYTES);
        return keys[key].publicRow[i];
    }

    public int entry(int key, int which, int i, int j)
            throws IllegalArgumentException, NoSuchElementException, IndexOutOfBoundsException {
        refuseNoPlace(key);
        refuseNoMatrix(which);
        refuseEmpty(keys[key].full);
        Matrix matrix = keys[key].matrix(which);
        refuseOutside(matrix.has(i, j));
        return matrix.at(i, j);
    }

    public int noise(int wrap, int key, int i, int j)
            throws IllegalArgumentException, NoSuchElementException, IndexOutOfBoundsException {
        refuseUnreadable(wrap, key);
        refuseOutside(desk.opened.has(i, j));
        desk.open(wraps[wrap].row, keys[key]);
        return desk.openedNoise(i, j);
    }

    public int read(int wrap, int key) throws IllegalArgumentException, NoSuchElementException {
        refuseUnreadable(wrap, key);
        desk.open(wraps[wrap].row, keys[key]);
        return desk.openedMessage();
    }

    public long shake(int n, long a) throws IllegalArgumentException {
        refuseNoLength(n);
        desk.shaker.begin();
        desk.shaker.putBytes(a, n);
        desk.shaker.finish();
        return desk.shaker.longAt(0);
    }

    private void refuseUnreadable(int wrap, int key) {
        refuseNoPlace(wrap);
        refuseNoPlace(key);
        refuseEmpty(wraps[wrap].full);
        refuseEmpty(keys[key].full);
    }

    private void refuseNoWrapByte(int wrap, int i) {
        refuseNoPlace(wrap);
        refuseEmpty(wraps[wrap].full);
        refuseOutside(i >= 0 && i < WRAP_BYTES);
    }

    private static void refuseNoPlace(int place) {
        if (place < 0 || place >= PLACES) {
            throw new IllegalArgumentException("there is no such place");
        }
    }

    private static void refuseNoMatrix(int which) {
        if (which < 0 || which > 3) {
            throw new IllegalArgumentException("there is no such matrix");
        }
    }

    private static void refuseNoLength(int n) {
        if (n < 0 || n > 8) {
            throw new IllegalArgumentException("a long has 0 to 8 bytes");
        }
    }

    private static void refuseEmpty(boolean full) {
        if (!full) {
            throw new NoSuchElementException("the place is empty");
        }
    }

    private static void refuseOutside(boolean inside) {
        if (!inside) {
            throw new IndexOutOfBoundsException("there is no such byte or entry");
        }
    }

    /** A place for a key; what it holds means something only while it is full. */
    private static final class Key {
        private boolean full = false;
        private long s = 0L;
        private long mark = 0L;
        private final Matrix a = new Matrix(WIDE, WIDE);
        /** S; the letter is the long's. */
        private final Matrix small = new Matrix(WIDE, NARROW);
        private final Matrix error = new Matrix(WIDE, NARROW);
        private final Matrix b = new Matrix(WIDE, NARROW);
        private final int[] publicRow = new int[PUBLIC_BYTES];

        void fillFrom(long newS, long e, long z, Shaker shaker) {
            s = newS;
            long seed = shaker.ofLong(z);
            fillA(seed, shaker);
            shaker.ofByteAndLong(KEY_NOISE, e);
            small.takeSamples(shaker, 0);
            error.takeSamples(shaker, WIDE * NARROW);
            b.takeSumWithProduct(error, 1, a, small);
            for (int k = 0; k < SEED_BYTES; k++) {
                publicRow[k] = (int) (seed >>> (8 * k)) & 255;
            }
            b.packInto(publicRow, SEED_BYTES);
            shaker.begin();
            shaker.putRow(publicRow);
            shaker.finish();
            mark = shaker.longAt(0);
            full = true;
        }

        private void fillA(long seed, Shaker shaker) {
            for (int i = 0; i < WIDE; i++) {
                shaker.begin();
                shaker.putByte(i);
                shaker.putByte(0);
                shaker.putBytes(seed, 8);
                shaker.finish();
                for (int j = 0; j < WIDE; j++) {
                    a.put(i, j, shaker.pairAt(j));
                }
            }
        }

        Matrix matrix(int which) {
            switch (which) {
                case 0:
                    return a;
                case 1:
                    return small;
                case 2:
                    return b;
                default:
                    return error;
            }
        }
    }

    /** A place for a wrap; its row means something only while it is full. */
    private static final class Wrap {
        private boolean full = false;
        private final int[] row = new int[WRAP_BYTES];
    }

    /** Where wraps are made and opened: all that is needed in between and not kept. */
    private static final class Desk {
        private final Shaker shaker = new Shaker();
        /** S', E' and E''. */
        private final Matrix small = new Matrix(NARROW, WIDE);
        private final Matrix errorOfX = new Matrix(NARROW, WIDE);
        private final Matrix errorOfY = new Matrix(NARROW, NARROW);
        private final Matrix x = new Matrix(NARROW, WIDE);
        private final Matrix y = new Matrix(NARROW, NARROW);
        /** M of the wrap that was opened last. */
        private final Matrix opened = new Matrix(NARROW, NARROW);
        private final int[] again = new int[WRAP_BYTES];

        /** Writes the wrap of m into the row and answers its secret. */
        long seal(int m, Key key, int[] row) {
            shaker.begin();
            shaker.putBytes(key.mark, 8);
            shaker.putBytes(m, 4);
            shaker.finish();
            long f = shaker.longAt(0);
            long k = shaker.longAt(1);
            takeNoise(f);
            x.takeSumWithProduct(errorOfX, 1, small, key.a);
            y.takeSumWithProduct(errorOfY, 1, small, key.b);
            addCode(m);
            x.packInto(row, 0);
            y.packInto(row, X_BYTES);
            return shaker.ofRowAndLong(row, k);
        }

        private void takeNoise(long f) {
            shaker.ofByteAndLong(WRAP_NOISE, f);
            small.takeSamples(shaker, 0);
            errorOfX.takeSamples(shaker, NARROW * WIDE);
            errorOfY.takeSamples(shaker, 2 * NARROW * WIDE);
        }

        private void addCode(int m) {
            for (int i = 0; i < NARROW; i++) {
                for (int j = 0; j < NARROW; j++) {
                    int bits = (m >>> (8 * i + 2 * j)) & 3;
                    y.put(i, j, y.at(i, j) + STEP * bits);
                }
            }
        }

        /** Finds M, which openedMessage and openedNoise look at. */
        void open(int[] row, Key key) {
            x.unpackFrom(row, 0);
            y.unpackFrom(row, X_BYTES);
            opened.takeSumWithProduct(y, -1, x, key.small);
        }

        int openedMessage() {
            int m = 0;
            for (int i = 0; i < NARROW; i++) {
                for (int j = 0; j < NARROW; j++) {
                    int bits = ((opened.at(i, j) + HALF_STEP) / STEP) & 3;
                    m |= bits << (8 * i + 2 * j);
                }
            }
            return m;
        }

        int openedNoise(int i, int j) {
            return (opened.at(i, j) + HALF_STEP) % STEP - HALF_STEP;
        }

        long unseal(int[] row, Key key) {
            open(row, key);
            long secret = seal(openedMessage(), key, again);
            if (isAgain(row)) {
                return secret;
            }
            return shaker.ofRowAndLong(row, key.s);
        }

        private boolean isAgain(int[] row) {
            int differing = 0;
            for (int i = 0; i < WRAP_BYTES; i++) {
                differing |= row[i] ^ again[i];
            }
            return differing == 0;
        }
    }

    /** A matrix whose entries are counted modulo 32768. */
    private static final class Matrix {
        private final int rows;
        private final int columns;
        private final int[] entries;

        Matrix(int rows, int columns) {
            this.rows = rows;
            this.columns = columns;
            this.entries = new int[rows * columns];
        }

        boolean has(int i, int j) {
            return i >= 0 && i < rows && j >= 0 && j < columns;
        }

        int at(int i, int j) {
            return entries[i * columns + j];
        }

        void put(int i, int j, int value) {
            entries[i * columns + j] = value & ENTRY_MASK;
        }

        /** Takes the samples of the shaken pairs of bytes from number first on. */
        void takeSamples(Shaker shaker, int first) {
            for (int k = 0; k < entries.length; k++) {
                entries[k] = sampleOf(shaker.pairAt(first + k)) & ENTRY_MASK;
            }
        }

        private static int sampleOf(int r) {
            int size = 0;
            for (int k = 0; k < SAMPLE_BOUNDS.length; k++) {
                if (SAMPLE_BOUNDS[k] < r / 2) {
                    size++;
                }
            }
            return r % 2 == 0 ? size : -size;
        }

        /** Becomes base + sign * left * right; sums that wrap around stay right modulo 32768. */
        void takeSumWithProduct(Matrix base, int sign, Matrix left, Matrix right) {
            for (int i = 0; i < rows; i++) {
                for (int j = 0; j < columns; j++) {
                    int sum = 0;
                    for (int k = 0; k < left.columns; k++) {
                        sum += left.at(i, k) * right.at(k, j);
                    }
                    put(i, j, base.at(i, j) + sign * sum);
                }
            }
        }

        void packInto(int[] row, int first) {
            int held = 0;
            int bits = 0;
            int to = first;
            for (int k = 0; k < entries.length; k++) {
                held = (held << ENTRY_BITS) | entries[k];
                bits += ENTRY_BITS;
                while (bits >= 8) {
                    bits -= 8;
                    row[to] = (held >>> bits) & 255;
                    to++;
                }
            }
        }

        void unpackFrom(int[] row, int first) {
            int held = 0;
            int bits = 0;
            int from = first;
            for (int k = 0; k < entries.length; k++) {
                while (bits < ENTRY_BITS) {
                    held = (held << 8) | row[from];
                    from++;
                    bits += 8;
                }
                bits -= ENTRY_BITS;
                entries[k] = (held >>> bits) & ENTRY_MASK;
            }
        }
    }

    /**
     * SHAKE: begin, put the row (never more than the 98 bytes of a wrap and a long), finish, and
     * then look at the result.
     */
    private static final class Shaker {
        private final long[] lanes = new long[LANES];
        private final long[] moved = new long[LANES];
        private final long[] columns = new long[5];
        private int length = 0;

        void begin() {
            Arrays.fill(lanes, 0L);
            length = 0;
        }

        void putByte(int value) {
            lanes[length / 8] ^= (value & 255L) << (8 * (length % 8));
            length++;
        }

        /** Puts the lowest n bytes of value, the lowest first. */
        void putBytes(long value, int n) {
            for (int k = 0; k < n; k++) {
                putByte((int) (value >>> (8 * k)));
            }
        }

        void putRow(int[] row) {
            for (int k = 0; k < row.length; k++) {
                putByte(row[k]);
            }
        }

        void finish() {
            putByte(31);
            lanes[LAST_LANE_OF_ROW] ^= 128L << 56;
            for (int r = 0; r < ROUND_BITS.length; r++) {
                mixColumns();
                moveLanes();
                mixRows();
                lanes[0] ^= ROUND_BITS[r];
            }
        }

        long longAt(int k) {
            return lanes[k];
        }

        /** The bytes 2 * k and 2 * k + 1 of the result, the first being the lower one. */
        int pairAt(int k) {
            return (int) (lanes[k / 4] >>> (16 * (k % 4))) & 65535;
        }

        long ofLong(long value) {
            begin();
            putBytes(value, 8);
            finish();
            return longAt(0);
        }

        void ofByteAndLong(int first, long value) {
            begin();
            putByte(first);
            putBytes(value, 8);
            finish();
        }

        long ofRowAndLong(int[] row, long value) {
            begin();
            putRow(row);
            putBytes(value, 8);
            finish();
            return longAt(0);
        }

        private void mixColumns() {
            for (int x = 0; x < 5; x++) {
                columns[x] = lanes[x] ^ lanes[x + 5] ^ lanes[x + 10] ^ lanes[x + 15]
                        ^ lanes[x + 20];
            }
            for (int x = 0; x < 5; x++) {
                long mixed = columns[(x + 4) % 5] ^ turned(columns[(x + 1) % 5], 1);
                for (int lane = x; lane < LANES; lane += 5) {
                    lanes[lane] ^= mixed;
                }
            }
        }

        private void moveLanes() {
            for (int lane = 0; lane < LANES; lane++) {
                moved[LANE_GOES_TO[lane]] = turned(lanes[lane], LANE_TURNS[lane]);
            }
        }

        private void mixRows() {
            for (int y = 0; y < LANES; y += 5) {
                for (int x = 0; x < 5; x++) {
                    long next = moved[y + (x + 1) % 5];
                    long afterNext = moved[y + (x + 2) % 5];
                    lanes[y + x] = moved[y + x] ^ (~next & afterNext);
                }
            }
        }

        private static long turned(long value, int n) {
            // A shift by 64 is one by 0 in Java, so n = 0 needs no case of its own.
            return (value << n) | (value >>> (64 - n));
        }
    }
}
