import java.util.ArrayList;
import java.util.List;
import java.util.NoSuchElementException;

/**
 * The document once more, word for word and without thought of speed: constants are computed by
 * its rules, rows are lists of bytes, packing goes through texts of bits. It shares no code with
 * the program, so that the two can be held against each other.
 */
final class Model {
    private static final int Q = 32768;
    private static final int[] BOUNDS = {
        4643, 13363, 20579, 25843, 29227, 31145, 32103, 32525, 32689, 32745, 32762, 32766
    };

    private record Key(long s, int[][] a, int[][] small, int[][] error, int[][] b,
            List<Integer> publicRow, long mark) {}

    private record Sealed(List<Integer> row, long secret) {}

    private final Key[] keys = new Key[4];
    private final List<List<Integer>> wraps = new ArrayList<>();

    Model() {
        for (int place = 0; place < 4; place++) {
            wraps.add(null);
        }
    }

    // F and SHAKE

    static void f(long[][] lane) {
        int number = 1;
        for (int r = 0; r < 24; r++) {
            long[] c = new long[5];
            for (int x = 0; x < 5; x++) {
                for (int y = 0; y < 5; y++) {
                    c[x] ^= lane[x][y];
                }
            }
            long[][] moved = new long[5][5];
            moved[0][0] = lane[0][0] ^ c[4] ^ Long.rotateLeft(c[1], 1);
            int x = 1;
            int y = 0;
            for (int t = 0; t < 24; t++) {
                int toX = y;
                int toY = (2 * x + 3 * y) % 5;
                long mixed = lane[x][y] ^ c[(x + 4) % 5] ^ Long.rotateLeft(c[(x + 1) % 5], 1);
                moved[toX][toY] = Long.rotateLeft(mixed, (t + 1) * (t + 2) / 2 % 64);
                x = toX;
                y = toY;
            }
            for (x = 0; x < 5; x++) {
                for (y = 0; y < 5; y++) {
                    lane[x][y] = moved[x][y] ^ (~moved[(x + 1) % 5][y] & moved[(x + 2) % 5][y]);
                }
            }
            for (int j = 0; j <= 6; j++) {
                if ((number & 1) == 1) {
                    lane[0][0] ^= 1L << ((1 << j) - 1);
                }
                number *= 2;
                if (number >= 256) {
                    number ^= 369;
                }
            }
        }
    }

    static List<Integer> shakeRow(List<Integer> row, int n) {
        int[] bytes = new int[168];
        for (int k = 0; k < row.size(); k++) {
            bytes[k] = row.get(k);
        }
        bytes[row.size()] = 31;
        bytes[167] ^= 128;
        long[][] lane = new long[5][5];
        for (int k = 0; k < 168; k++) {
            lane[k / 8 % 5][k / 8 / 5] |= (long) bytes[k] << (8 * (k % 8));
        }
        f(lane);
        List<Integer> result = new ArrayList<>();
        for (int k = 0; k < n; k++) {
            result.add((int) (lane[k / 8 % 5][k / 8 / 5] >>> (8 * (k % 8))) & 255);
        }
        return result;
    }

    private static List<Integer> bytesOf(long value, int n) {
        List<Integer> row = new ArrayList<>();
        for (int k = 0; k < n; k++) {
            row.add((int) (value >>> (8 * k)) & 255);
        }
        return row;
    }

    private static long longOf(List<Integer> row) {
        long value = 0;
        for (int k = 7; k >= 0; k--) {
            value = value * 256 + row.get(k);
        }
        return value;
    }

    private static List<Integer> joined(List<Integer> first, List<Integer> second) {
        List<Integer> row = new ArrayList<>(first);
        row.addAll(second);
        return row;
    }

    // MATRICES, SAMPLES, PACKING

    private static int[][] matrix(List<Integer> numbers, int rows, int columns) {
        int[][] result = new int[rows][columns];
        for (int i = 0; i < rows; i++) {
            for (int j = 0; j < columns; j++) {
                result[i][j] = Math.floorMod(numbers.get(i * columns + j), Q);
            }
        }
        return result;
    }

    static List<Integer> samples(List<Integer> row) {
        List<Integer> result = new ArrayList<>();
        for (int k = 0; k < row.size(); k += 2) {
            int r = row.get(k) + 256 * row.get(k + 1);
            int size = 0;
            for (int bound : BOUNDS) {
                size += bound < r / 2 ? 1 : 0;
            }
            result.add(r % 2 == 1 ? 0 - size : size);
        }
        return result;
    }

    private static int[][] product(int[][] left, int[][] right) {
        int[][] result = new int[left.length][right[0].length];
        for (int i = 0; i < left.length; i++) {
            for (int j = 0; j < right[0].length; j++) {
                long sum = 0;
                for (int k = 0; k < right.length; k++) {
                    sum += (long) left[i][k] * right[k][j];
                }
                result[i][j] = (int) Math.floorMod(sum, (long) Q);
            }
        }
        return result;
    }

    private static int[][] sum(int[][] left, int sign, int[][] right) {
        int[][] result = new int[left.length][left[0].length];
        for (int i = 0; i < left.length; i++) {
            for (int j = 0; j < left[0].length; j++) {
                result[i][j] = Math.floorMod(left[i][j] + sign * right[i][j], Q);
            }
        }
        return result;
    }

    private static List<Integer> packed(int[][] matrix) {
        StringBuilder bits = new StringBuilder();
        for (int[] row : matrix) {
            for (int entry : row) {
                bits.append(Integer.toBinaryString(Q + entry).substring(1));
            }
        }
        List<Integer> result = new ArrayList<>();
        for (int at = 0; at < bits.length(); at += 8) {
            result.add(Integer.parseInt(bits.substring(at, at + 8), 2));
        }
        return result;
    }

    private static int[][] unpacked(List<Integer> row, int rows, int columns) {
        StringBuilder bits = new StringBuilder();
        for (int value : row) {
            bits.append(Integer.toBinaryString(256 + value).substring(1));
        }
        List<Integer> numbers = new ArrayList<>();
        for (int at = 0; at < bits.length(); at += 15) {
            numbers.add(Integer.parseInt(bits.substring(at, at + 15), 2));
        }
        return matrix(numbers, rows, columns);
    }

    // KEY, WRAPPING, UNWRAPPING

    private static int[][] a(long seed) {
        int[][] result = new int[8][8];
        for (int i = 0; i < 8; i++) {
            List<Integer> row = shakeRow(joined(List.of(i, 0), bytesOf(seed, 8)), 16);
            for (int j = 0; j < 8; j++) {
                result[i][j] = (row.get(2 * j) + 256 * row.get(2 * j + 1)) % Q;
            }
        }
        return result;
    }

    private static Key keyOf(long s, long e, long z) {
        long seed = longOf(shakeRow(bytesOf(z, 8), 8));
        List<Integer> drawn = samples(shakeRow(joined(List.of(95), bytesOf(e, 8)), 128));
        int[][] small = matrix(drawn.subList(0, 32), 8, 4);
        int[][] error = matrix(drawn.subList(32, 64), 8, 4);
        int[][] a = a(seed);
        int[][] b = sum(product(a, small), 1, error);
        List<Integer> publicRow = joined(bytesOf(seed, 8), packed(b));
        return new Key(s, a, small, error, b, publicRow, longOf(shakeRow(publicRow, 8)));
    }

    private static Sealed sealed(Key key, int m) {
        int[][] code = new int[4][4];
        for (int i = 0; i < 4; i++) {
            for (int j = 0; j < 4; j++) {
                int bit = 8 * i + 2 * j;
                code[i][j] = 8192 * ((m >> bit & 1) + 2 * (m >> (bit + 1) & 1));
            }
        }
        List<Integer> fk = shakeRow(joined(bytesOf(key.mark, 8), bytesOf(m, 4)), 16);
        List<Integer> drawn = samples(shakeRow(joined(List.of(150), fk.subList(0, 8)), 160));
        int[][] small = matrix(drawn.subList(0, 32), 4, 8);
        int[][] errorOfX = matrix(drawn.subList(32, 64), 4, 8);
        int[][] errorOfY = matrix(drawn.subList(64, 80), 4, 4);
        int[][] x = sum(product(small, key.a), 1, errorOfX);
        int[][] y = sum(sum(product(small, key.b), 1, errorOfY), 1, code);
        List<Integer> row = joined(packed(x), packed(y));
        return new Sealed(row, longOf(shakeRow(joined(row, fk.subList(8, 16)), 8)));
    }

    private static int[][] opened(List<Integer> row, Key key) {
        int[][] x = unpacked(row.subList(0, 60), 4, 8);
        int[][] y = unpacked(row.subList(60, 90), 4, 4);
        return sum(y, -1, product(x, key.small));
    }

    private static int readOf(List<Integer> row, Key key) {
        int[][] opened = opened(row, key);
        int m = 0;
        for (int i = 3; i >= 0; i--) {
            for (int j = 3; j >= 0; j--) {
                m = m * 4 + (opened[i][j] + 4096) / 8192 % 4;
            }
        }
        return m;
    }

    // The calls

    long make(int key, long s, long e, long z) {
        illegalUnless(isPlace(key));
        keys[key] = keyOf(s, e, z);
        return keys[key].mark;
    }

    long wrap(int wrap, int key, int m) {
        illegalUnless(isPlace(wrap) && isPlace(key));
        missingUnless(keys[key] != null);
        Sealed sealed = sealed(keys[key], m);
        wraps.set(wrap, sealed.row);
        return sealed.secret;
    }

    long unwrap(int wrap, int key) {
        needBoth(wrap, key);
        List<Integer> row = wraps.get(wrap);
        Sealed again = sealed(keys[key], readOf(row, keys[key]));
        if (again.row.equals(row)) {
            return again.secret;
        }
        return longOf(shakeRow(joined(row, bytesOf(keys[key].s, 8)), 8));
    }

    long change(int wrap, int i, int x) {
        needWrapByte(wrap, i);
        List<Integer> row = new ArrayList<>(wraps.get(wrap));
        row.set(i, row.get(i) ^ Math.floorMod(x, 256));
        wraps.set(wrap, row);
        return row.get(i);
    }

    long copy(int from, int to) {
        illegalUnless(isPlace(from) && isPlace(to));
        missingUnless(wraps.get(from) != null);
        wraps.set(to, wraps.get(from));
        return 0;
    }

    boolean forget(boolean key, int place) {
        illegalUnless(isPlace(place));
        if (key) {
            boolean was = keys[place] != null;
            keys[place] = null;
            return was;
        }
        return wraps.set(place, null) != null;
    }

    long wrapByte(int wrap, int i) {
        needWrapByte(wrap, i);
        return wraps.get(wrap).get(i);
    }

    long publicByte(int key, int i) {
        illegalUnless(isPlace(key));
        missingUnless(keys[key] != null);
        outsideUnless(0 <= i && i <= 67);
        return keys[key].publicRow.get(i);
    }

    long entry(int key, int which, int i, int j) {
        illegalUnless(isPlace(key) && 0 <= which && which <= 3);
        missingUnless(keys[key] != null);
        outsideUnless(0 <= i && i <= 7 && 0 <= j && j <= (which == 0 ? 7 : 3));
        int[][][] matrices = {keys[key].a, keys[key].small, keys[key].b, keys[key].error};
        return matrices[which][i][j];
    }

    long noise(int wrap, int key, int i, int j) {
        needBoth(wrap, key);
        outsideUnless(0 <= i && i <= 3 && 0 <= j && j <= 3);
        int value = opened(wraps.get(wrap), keys[key])[i][j];
        int far = value - 8192 * ((value + 4096) / 8192 % 4);
        while (far > 4095) {
            far -= Q;
        }
        while (far < -4096) {
            far += Q;
        }
        return far;
    }

    long read(int wrap, int key) {
        needBoth(wrap, key);
        return readOf(wraps.get(wrap), keys[key]);
    }

    long shake(int n, long a) {
        illegalUnless(0 <= n && n <= 8);
        return longOf(shakeRow(bytesOf(a, n), 8));
    }

    private void needBoth(int wrap, int key) {
        illegalUnless(isPlace(wrap) && isPlace(key));
        missingUnless(wraps.get(wrap) != null && keys[key] != null);
    }

    private void needWrapByte(int wrap, int i) {
        illegalUnless(isPlace(wrap));
        missingUnless(wraps.get(wrap) != null);
        outsideUnless(0 <= i && i <= 89);
    }

    private static boolean isPlace(int place) {
        return 0 <= place && place <= 3;
    }

    private static void illegalUnless(boolean fine) {
        if (!fine) {
            throw new IllegalArgumentException();
        }
    }

    private static void missingUnless(boolean fine) {
        if (!fine) {
            throw new NoSuchElementException();
        }
    }

    private static void outsideUnless(boolean fine) {
        if (!fine) {
            throw new IndexOutOfBoundsException();
        }
    }
}
