import java.util.Random;

/**
 * Runs of drawn calls, each run on a new object and a new model: both must answer or throw
 * the same, call by call. The draws are always the same ones.
 */
public final class ModelRunsTest {
    private static final int RUNS = 200;
    /** Together with the looks at a place, at a run's end, these stay within 512 calls. */
    private static final int CALLS = 150;
    private static final int[] ODD_NUMBERS = {
        -1, 0, 1, 2, 3, 4, 5, 7, 8, 9, 59, 60, 67, 68, 89, 90, 255, 256,
        Integer.MIN_VALUE, Integer.MAX_VALUE
    };

    private final Checks checks = new Checks();
    private final Random random = new Random(20261115L);

    public static void main(String[] args) {
        ModelRunsTest test = new ModelRunsTest();
        for (int run = 0; run < RUNS; run++) {
            LatticeWraps program = new LatticeWraps();
            Model model = new Model();
            for (int call = 0; call < CALLS; call++) {
                test.drawCall("run " + run + ", call " + call + ": ", program, model);
            }
            test.comparePlace("run " + run + ", at its end: ", program, model, run % 4);
        }
        test.checks.end("ModelRunsTest");
    }

    private void drawCall(String where, LatticeWraps program, Model model) {
        int p = place();
        int q = place();
        switch (random.nextInt(13)) {
            case 0: {
                long s = longNumber();
                long e = longNumber();
                long z = longNumber();
                same(where + "make(" + p + ", " + s + ", " + e + ", " + z + ")",
                        () -> program.make(p, s, e, z), () -> model.make(p, s, e, z));
                break;
            }
            case 1:
            case 2: {
                int m = number();
                same(where + "wrap(" + p + ", " + q + ", " + m + ")",
                        () -> program.wrap(p, q, m), () -> model.wrap(p, q, m));
                break;
            }
            case 3:
            case 4:
                same(where + "unwrap(" + p + ", " + q + ")",
                        () -> program.unwrap(p, q), () -> model.unwrap(p, q));
                break;
            case 5: {
                int i = index(90);
                int x = number();
                same(where + "change(" + p + ", " + i + ", " + x + ")",
                        () -> program.change(p, i, x), () -> model.change(p, i, x));
                break;
            }
            case 6:
                same(where + "copy(" + p + ", " + q + ")",
                        () -> copied(program, p, q), () -> model.copy(p, q));
                break;
            default:
                drawLook(where, program, model, p, q);
        }
    }

    private void drawLook(String where, LatticeWraps program, Model model, int p, int q) {
        int i = index(8);
        int j = index(4);
        switch (random.nextInt(7)) {
            case 0: {
                boolean key = random.nextBoolean();
                if (random.nextInt(3) == 0) {
                    same(where + "forget(" + key + ", " + p + ")",
                            () -> program.forget(key, p) ? 1 : 0,
                            () -> model.forget(key, p) ? 1 : 0);
                }
                break;
            }
            case 1: {
                int at = index(90);
                same(where + "wrapByte(" + p + ", " + at + ")",
                        () -> program.wrapByte(p, at), () -> model.wrapByte(p, at));
                break;
            }
            case 2: {
                int at = index(68);
                same(where + "publicByte(" + p + ", " + at + ")",
                        () -> program.publicByte(p, at), () -> model.publicByte(p, at));
                break;
            }
            case 3: {
                int which = place();
                same(where + "entry(" + p + ", " + which + ", " + i + ", " + j + ")",
                        () -> program.entry(p, which, i, j), () -> model.entry(p, which, i, j));
                break;
            }
            case 4:
                same(where + "noise(" + p + ", " + q + ", " + i + ", " + j + ")",
                        () -> program.noise(p, q, i, j), () -> model.noise(p, q, i, j));
                break;
            case 5:
                same(where + "read(" + p + ", " + q + ")",
                        () -> program.read(p, q), () -> model.read(p, q));
                break;
            default: {
                int n = random.nextInt(12) - 1;
                long a = longNumber();
                same(where + "shake(" + n + ", " + a + ")",
                        () -> program.shake(n, a), () -> model.shake(n, a));
            }
        }
    }

    /** Looks at all that can be seen of the key and the wrap in a place. */
    private void comparePlace(String where, LatticeWraps program, Model model, int p) {
        for (int at = 0; at <= 90; at++) {
            int i = at;
            same(where + "wrapByte(" + p + ", " + i + ")",
                    () -> program.wrapByte(p, i), () -> model.wrapByte(p, i));
        }
        for (int at = 0; at <= 68; at++) {
            int i = at;
            same(where + "publicByte(" + p + ", " + i + ")",
                    () -> program.publicByte(p, i), () -> model.publicByte(p, i));
        }
        for (int which = 0; which < 4; which++) {
            int columns = which == 0 ? 8 : 4;
            for (int at = 0; at < 8 * columns; at++) {
                int w = which;
                int i = at / columns;
                int j = at % columns;
                same(where + "entry(" + p + ", " + w + ", " + i + ", " + j + ")",
                        () -> program.entry(p, w, i, j), () -> model.entry(p, w, i, j));
            }
        }
    }

    private void same(String call, Checks.Call program, Checks.Call model) {
        checks.due(call, Checks.outcome(program), Checks.outcome(model));
    }

    private static long copied(LatticeWraps program, int from, int to) {
        program.copy(from, to);
        return 0;
    }

    private int place() {
        return random.nextInt(16) == 0 ? number() : random.nextInt(4);
    }

    private int index(int bound) {
        return random.nextInt(8) == 0 ? number() : random.nextInt(bound);
    }

    private int number() {
        return random.nextBoolean()
                ? ODD_NUMBERS[random.nextInt(ODD_NUMBERS.length)]
                : random.nextInt();
    }

    private long longNumber() {
        switch (random.nextInt(4)) {
            case 0:
                return number();
            case 1:
                return random.nextBoolean() ? Long.MIN_VALUE : Long.MAX_VALUE;
            default:
                return random.nextLong();
        }
    }
}
