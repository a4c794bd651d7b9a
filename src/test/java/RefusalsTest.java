import java.util.Arrays;
import java.util.NoSuchElementException;

/**
 * Every refusal that the document lists, for each call with all the edges of its arguments taken
 * together: "The first refusal that holds, in the order in which they are listed, is thrown; a call
 * that throws changes nothing." Where no refusal holds, none may be thrown.
 *
 * <p>Place 0 has a wrap only, place 1 a key only, place 2 neither and place 3 both.
 */
public final class RefusalsTest {
    private static final Class<IllegalArgumentException> ILLEGAL = IllegalArgumentException.class;
    private static final Class<NoSuchElementException> MISSING = NoSuchElementException.class;
    private static final Class<IndexOutOfBoundsException> OUTSIDE = IndexOutOfBoundsException.class;

    /** Numbers that a cut to fewer bits would turn into places are among them. */
    private static final int[] PLACES = {
        Integer.MIN_VALUE, -4, -1, 0, 1, 2, 3, 4, 256, Integer.MAX_VALUE
    };
    private static final int[] ROWS_AND_COLUMNS = {
        Integer.MIN_VALUE, -1, 0, 3, 4, 7, 8, Integer.MAX_VALUE
    };
    /** As many refused calls as an object has room for beside those that look at it. */
    private static final int REFUSALS_EACH = 48;

    /** A call on an object that it is given. */
    private interface Act {
        long on(LatticeWraps program);
    }

    private final Checks checks = new Checks();
    private final long[] lookDue = look(prepared());
    private LatticeWraps refusing = prepared();
    private int refusals = 0;

    public static void main(String[] args) {
        RefusalsTest test = new RefusalsTest();
        test.make();
        test.wrap();
        test.unwrapAndRead();
        test.change();
        test.copy();
        test.forget();
        test.wrapByte();
        test.publicByte();
        test.entry();
        test.noise();
        test.shake();
        test.lookAtRefusing("the last refusals");
        test.checks.end("RefusalsTest");
    }

    private static LatticeWraps prepared() {
        LatticeWraps program = new LatticeWraps();
        program.make(1, Given.S, Given.E, Given.Z);
        program.make(3, 4L, 5L, 6L);
        program.wrap(0, 1, Given.M);
        program.wrap(3, 3, ~Given.M);
        return program;
    }

    private static boolean noPlace(int place) {
        return place < 0 || place > 3;
    }

    private static boolean noKey(int place) {
        return place != 1 && place != 3;
    }

    private static boolean noWrap(int place) {
        return place != 0 && place != 3;
    }

    /** "IllegalArgumentException: there is no such place." */
    private void make() {
        for (int key : PLACES) {
            first("make(" + key + ")", noPlace(key), false, false,
                    program -> program.make(key, 7L, 8L, 9L));
        }
    }

    /** "there is no such place, for the wrap or the key; .. the key's is empty." */
    private void wrap() {
        for (int wrap : PLACES) {
            for (int key : PLACES) {
                first("wrap(" + wrap + ", " + key + ")", noPlace(wrap) || noPlace(key), noKey(key),
                        false, program -> program.wrap(wrap, key, 5));
            }
        }
    }

    /** "there is no such place, for the wrap or the key; .. one of them is empty." */
    private void unwrapAndRead() {
        for (int wrap : PLACES) {
            for (int key : PLACES) {
                boolean illegal = noPlace(wrap) || noPlace(key);
                boolean missing = noWrap(wrap) || noKey(key);
                first("unwrap(" + wrap + ", " + key + ")", illegal, missing, false,
                        program -> program.unwrap(wrap, key));
                first("read(" + wrap + ", " + key + ")", illegal, missing, false,
                        program -> program.read(wrap, key));
            }
        }
    }

    /** "there is no such place; .. it is empty; IndexOutOfBoundsException: i is not 0 .. 89." */
    private void change() {
        int[] bytes = {Integer.MIN_VALUE, -1, 0, 59, 60, 89, 90, 256, Integer.MAX_VALUE};
        for (int wrap : PLACES) {
            for (int i : bytes) {
                first("change(" + wrap + ", " + i + ")", noPlace(wrap), noWrap(wrap),
                        i < 0 || i > 89, program -> program.change(wrap, i, 255));
            }
        }
    }

    /** "there is no such place; NoSuchElementException: the first one is empty." */
    private void copy() {
        for (int from : PLACES) {
            for (int to : PLACES) {
                first("copy(" + from + ", " + to + ")", noPlace(from) || noPlace(to), noWrap(from),
                        false, program -> Given.copied(program, from, to));
            }
        }
    }

    /** "IllegalArgumentException: there is no such place."; an empty one is not refused. */
    private void forget() {
        for (int place : PLACES) {
            first("forget(true, " + place + ")", noPlace(place), false, false,
                    program -> Given.forgotten(program, true, place));
            first("forget(false, " + place + ")", noPlace(place), false, false,
                    program -> Given.forgotten(program, false, place));
        }
    }

    /** "Throws as change() does." */
    private void wrapByte() {
        int[] bytes = {Integer.MIN_VALUE, -1, 0, 59, 60, 89, 90, 256, Integer.MAX_VALUE};
        for (int wrap : PLACES) {
            for (int i : bytes) {
                first("wrapByte(" + wrap + ", " + i + ")", noPlace(wrap), noWrap(wrap),
                        i < 0 || i > 89, program -> program.wrapByte(wrap, i));
            }
        }
    }

    /** "Likewise, with i being 0 .. 67." */
    private void publicByte() {
        int[] bytes = {Integer.MIN_VALUE, -1, 0, 7, 8, 67, 68, 89, 256, Integer.MAX_VALUE};
        for (int key : PLACES) {
            for (int i : bytes) {
                first("publicByte(" + key + ", " + i + ")", noPlace(key), noKey(key),
                        i < 0 || i > 67, program -> program.publicByte(key, i));
            }
        }
    }

    /** "no such place, or which is not 0 .. 3; .. it is empty; .. there is no such entry." */
    private void entry() {
        for (int key : PLACES) {
            for (int which : PLACES) {
                int columns = which == 0 ? 8 : 4;
                for (int i : ROWS_AND_COLUMNS) {
                    for (int j : ROWS_AND_COLUMNS) {
                        first("entry(" + key + ", " + which + ", " + i + ", " + j + ")",
                                noPlace(key) || which < 0 || which > 3, noKey(key),
                                i < 0 || i >= 8 || j < 0 || j >= columns,
                                program -> program.entry(key, which, i, j));
                    }
                }
            }
        }
    }

    /** "Throws as unwrap() does; IndexOutOfBoundsException: there is no such entry." */
    private void noise() {
        for (int wrap : PLACES) {
            for (int key : PLACES) {
                for (int i : ROWS_AND_COLUMNS) {
                    for (int j : ROWS_AND_COLUMNS) {
                        first("noise(" + wrap + ", " + key + ", " + i + ", " + j + ")",
                                noPlace(wrap) || noPlace(key), noWrap(wrap) || noKey(key),
                                i < 0 || i > 3 || j < 0 || j > 3,
                                program -> program.noise(wrap, key, i, j));
                    }
                }
            }
        }
    }

    /** "IllegalArgumentException: n is not 0 .. 8." */
    private void shake() {
        int[] lengths = {
            Integer.MIN_VALUE, -8, -1, 0, 1, 7, 8, 9, 16, 166, 168, 256, Integer.MAX_VALUE
        };
        for (int n : lengths) {
            first("shake(" + n + ")", n < 0 || n > 8, false, false,
                    program -> program.shake(n, 3L));
        }
    }

    /** The first of the three that holds is thrown, or none. */
    private void first(String call, boolean illegal, boolean missing, boolean outside, Act act) {
        if (illegal || missing || outside) {
            makeRoom(call);
            checks.refused(call, illegal ? ILLEGAL : missing ? MISSING : OUTSIDE,
                    () -> act.on(refusing));
            refusals++;
        } else {
            checks.due(call, Checks.outcome(() -> 0 * act.on(prepared())), "0");
        }
    }

    private void makeRoom(String call) {
        if (refusals == REFUSALS_EACH) {
            lookAtRefusing("refusals before " + call);
            refusing = prepared();
            refusals = 0;
        }
    }

    private void lookAtRefusing(String when) {
        checks.due(when + " changed nothing", Arrays.equals(look(refusing), lookDue) ? 1 : 0, 1);
    }

    /** All that can be seen of an object, but for A, which unwrapping uses: 419 calls. */
    private static long[] look(LatticeWraps program) {
        long[] seen = new long[600];
        int at = 0;
        for (int place = 0; place < 4; place++) {
            int p = place;
            for (int i = 0; i < (noWrap(p) ? 1 : 90); i++) {
                int number = i;
                seen[at++] = answerOr(-7L, () -> program.wrapByte(p, number));
            }
            for (int i = 0; i < (noKey(p) ? 1 : 68); i++) {
                int number = i;
                seen[at++] = answerOr(-7L, () -> program.publicByte(p, number));
            }
            for (int i = 0; i < (noKey(p) ? 1 : 32); i++) {
                int number = i;
                seen[at++] = answerOr(-7L, () -> program.entry(p, 3, number / 4, number % 4));
            }
        }
        // A wrap that no key has, so that s is seen, too.
        program.change(0, 0, 1);
        for (int pair = 0; pair < 16; pair++) {
            int wrap = pair / 4;
            int key = pair % 4;
            seen[at++] = answerOr(-7L, () -> program.read(wrap, key));
            seen[at++] = answerOr(-7L, () -> program.unwrap(wrap, key));
        }
        return seen;
    }

    private static long answerOr(long otherwise, Checks.Call call) {
        try {
            return call.answer();
        } catch (NoSuchElementException empty) {
            return otherwise;
        }
    }
}
