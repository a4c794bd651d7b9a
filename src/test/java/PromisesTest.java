import java.util.NoSuchElementException;

/**
 * Promise by promise: ordinary answers, the edges that the document names, wrong inputs and the
 * order of refusals. The answers written out here come from a third reckoning, with the SHAKE128
 * of another library. No object is used for more than its 512 calls.
 */
public final class PromisesTest {
    private static final Class<IllegalArgumentException> ILLEGAL = IllegalArgumentException.class;
    private static final Class<NoSuchElementException> MISSING = NoSuchElementException.class;
    private static final Class<IndexOutOfBoundsException> OUTSIDE = IndexOutOfBoundsException.class;
    private static final int[][] NOISE = {
        {-34, 21, 30, -6}, {-7, -8, 31, 33}, {-14, 28, -8, -3}, {7, 4, 25, -12}
    };

    private final Checks checks = new Checks();

    public static void main(String[] args) {
        PromisesTest test = new PromisesTest();
        test.promise1NewObject();
        test.promise2Make();
        test.promise2MakeInsteadOfAnother();
        test.promise3Wrap();
        test.promise4Unwrap();
        test.promise4UnwrapEveryChangedBit();
        test.promise5Change();
        test.promise6Copy();
        test.promise6CopyInsteadOfAnother();
        test.promise7Forget();
        test.promise8WrapByte();
        test.promise9PublicByte();
        test.promise10Entry();
        test.promise11Noise();
        test.promises11And12AtTheEdges();
        test.promise12Read();
        test.promise13Shake();
        test.callsThatThrowChangeNothing();
        test.checks.end("PromisesTest");
    }

    private void promise1NewObject() {
        LatticeWraps program = new LatticeWraps();
        for (int place = 0; place < 4; place++) {
            int p = place;
            checks.refused("new: wrapByte", MISSING, () -> program.wrapByte(p, 0));
            checks.refused("new: publicByte", MISSING, () -> program.publicByte(p, 0));
            checks.refused("new: wrap", MISSING, () -> program.wrap(0, p, 0));
            checks.refused("new: copy", MISSING, () -> Given.copied(program, p, 0));
            checks.due("new: forget a key", program.forget(true, p) ? 1 : 0, 0);
            checks.due("new: forget a wrap", program.forget(false, p) ? 1 : 0, 0);
        }
        LatticeWraps used = Given.withWrap();
        LatticeWraps other = new LatticeWraps();
        checks.refused("new beside a used one: read", MISSING, () -> other.read(2, 1));
        checks.due("used beside a new one: read", used.read(2, 1), Given.M);
    }

    private void promise2Make() {
        for (int place = 0; place < 4; place++) {
            LatticeWraps program = new LatticeWraps();
            checks.due("make: the mark", program.make(place, 11L, -22L, 33L), Given.MARK);
            checks.due("make: the public row", Given.publicRow(program, place), Given.PUBLIC_ROW);
            for (int other = 0; other < 4; other++) {
                int p = other;
                if (p != place) {
                    checks.refused("make: other places", MISSING, () -> program.publicByte(p, 0));
                }
            }
        }
        LatticeWraps program = new LatticeWraps();
        checks.due("make of the farthest longs",
                program.make(0, Long.MIN_VALUE, Long.MAX_VALUE, 0L), 4161546495015003436L);
        checks.due("make: s is not in the mark", program.make(3, -5L, -22L, 33L), Given.MARK);
        for (int place : Given.NO_PLACES) {
            checks.refused("make in no place", ILLEGAL, () -> program.make(place, 1L, 2L, 3L));
        }
    }

    private void promise2MakeInsteadOfAnother() {
        LatticeWraps program = new LatticeWraps();
        program.make(1, 5L, 6L, 7L);
        program.wrap(0, 1, 99);
        checks.due("make instead of another", program.make(1, 11L, -22L, 33L), Given.MARK);
        checks.due("its public row", Given.publicRow(program, 1), Given.PUBLIC_ROW);
        checks.due("its wrap", program.wrap(2, 1, Given.M), Given.SECRET);
        program.change(2, 0, 1);
        checks.due("its s", program.unwrap(2, 1), 7871650760051221841L);
        program.make(1, 5L, 6L, 7L);
        checks.due("the first again reads its wrap", program.read(0, 1), 99);
    }

    private void promise3Wrap() {
        int[] messages = {0, -1, Given.M, Integer.MIN_VALUE, Integer.MAX_VALUE};
        long[] secrets = {
            -2855496946633060799L, -8208536951575716643L, Given.SECRET,
            8545663164194810712L, -6181423973761193229L
        };
        LatticeWraps program = Given.withKey();
        for (int k = 0; k < messages.length; k++) {
            int wrap = k % 4;
            checks.due("wrap " + messages[k], program.wrap(wrap, 1, messages[k]), secrets[k]);
            checks.due("wrap, read", program.read(wrap, 1), messages[k]);
        }
        checks.due("wrap instead of another", program.wrap(0, 1, Given.M), Given.SECRET);
        checks.due("the wrap", Given.wrapRow(program, 0), Given.WRAP_ROW);
        for (int place : Given.NO_PLACES) {
            checks.refused("wrap in no place", ILLEGAL, () -> program.wrap(place, 1, Given.M));
            checks.refused("wrap for no place", ILLEGAL, () -> program.wrap(0, place, Given.M));
            checks.refused("wrap in no place, no key", ILLEGAL,
                    () -> program.wrap(place, 0, Given.M));
        }
        checks.refused("wrap for an empty place", MISSING, () -> program.wrap(0, 0, Given.M));
    }

    private void promise4Unwrap() {
        LatticeWraps program = Given.withWrap();
        checks.due("unwrap", program.unwrap(2, 1), Given.SECRET);
        checks.due("unwrap again", program.unwrap(2, 1), Given.SECRET);
        checks.due("unwrap leaves the wrap", Given.wrapRow(program, 2), Given.WRAP_ROW);
        program.make(0, Long.MIN_VALUE, Long.MAX_VALUE, 0L);
        checks.due("unwrap with another key", program.unwrap(2, 0), 4443801961122494189L);
        program.change(2, 0, 1);
        checks.due("unwrap, first byte changed", program.unwrap(2, 1), 7871650760051221841L);
        program.change(2, 0, 1);
        program.change(2, 89, 1);
        checks.due("unwrap, last byte changed", program.unwrap(2, 1), 7782265679382268434L);
        program.change(2, 89, 1);
        checks.due("unwrap, changed back", program.unwrap(2, 1), Given.SECRET);
        program.make(3, 12L, -22L, 33L);
        checks.due("unwrap, another s", program.unwrap(2, 3), Given.SECRET);
        unwrapRefusals(program);
    }

    private void unwrapRefusals(LatticeWraps program) {
        program.forget(true, 2);
        for (int place : Given.NO_PLACES) {
            checks.refused("unwrap no place", ILLEGAL, () -> program.unwrap(place, 1));
            checks.refused("unwrap with no place", ILLEGAL, () -> program.unwrap(2, place));
            checks.refused("unwrap no place, no key", ILLEGAL, () -> program.unwrap(place, 2));
            checks.refused("unwrap no wrap, no place", ILLEGAL, () -> program.unwrap(0, place));
        }
        checks.refused("unwrap an empty place", MISSING, () -> program.unwrap(0, 1));
        checks.refused("unwrap with an empty place", MISSING, () -> program.unwrap(2, 2));
        checks.refused("unwrap, both empty", MISSING, () -> program.unwrap(0, 2));
    }

    private void promise4UnwrapEveryChangedBit() {
        Model model = new Model();
        model.make(1, 11L, -22L, 33L);
        model.wrap(2, 1, Given.M);
        LatticeWraps program = Given.withWrap();
        for (int bit = 0; bit < 8 * 90; bit++) {
            if (bit % 80 == 0) {
                program = Given.withWrap();
            }
            program.change(2, bit / 8, 1 << bit % 8);
            model.change(2, bit / 8, 1 << bit % 8);
            long secret = program.unwrap(2, 1);
            checks.due("unwrap, bit " + bit + " changed", secret, model.unwrap(2, 1));
            checks.due("that is not the secret", secret == Given.SECRET ? 1 : 0, 0);
            program.change(2, bit / 8, 1 << bit % 8);
            model.change(2, bit / 8, 1 << bit % 8);
        }
    }

    private void promise5Change() {
        LatticeWraps program = Given.withWrap();
        int first = 0xa4;
        int last = 0xf3;
        checks.due("change the first byte", program.change(2, 0, 0x0f), first ^ 0x0f);
        checks.due("change stays", program.wrapByte(2, 0), first ^ 0x0f);
        checks.due("change the last byte", program.change(2, 89, 0xff), last ^ 0xff);
        checks.due("change by -1", program.change(2, 89, -1), last);
        checks.due("change by 256", program.change(2, 89, 256), last);
        checks.due("change by 0x7fffff80", program.change(2, 89, 0x7fffff80), last ^ 0x80);
        checks.due("change by the least int", program.change(2, 0, Integer.MIN_VALUE), first ^ 15);
        checks.due("change nothing else", Given.wrapRow(program, 2).substring(2, 178),
                Given.WRAP_ROW.substring(2, 178));
        for (int place : Given.NO_PLACES) {
            checks.refused("change in no place", ILLEGAL, () -> program.change(place, 90, 1));
        }
        checks.refused("change in an empty place", MISSING, () -> program.change(0, -1, 1));
        checks.refused("change byte -1", OUTSIDE, () -> program.change(2, -1, 1));
        checks.refused("change byte 90", OUTSIDE, () -> program.change(2, 90, 1));
        checks.refused("change a far byte", OUTSIDE,
                () -> program.change(2, Integer.MAX_VALUE, 1));
    }

    private void promise6Copy() {
        LatticeWraps program = Given.withWrap();
        program.copy(2, 0);
        checks.due("copy", Given.wrapRow(program, 0), Given.WRAP_ROW);
        checks.due("copy leaves the first", Given.wrapRow(program, 2), Given.WRAP_ROW);
        program.change(0, 7, 3);
        checks.due("a changed copy leaves the first", Given.wrapRow(program, 2), Given.WRAP_ROW);
        program.copy(2, 3);
        program.change(2, 7, 3);
        checks.due("a changed first leaves the copy", Given.wrapRow(program, 3), Given.WRAP_ROW);
        program.forget(false, 2);
        checks.due("a forgotten first leaves the copy", program.unwrap(3, 1), Given.SECRET);
    }

    private void promise6CopyInsteadOfAnother() {
        LatticeWraps program = Given.withKey();
        program.wrap(3, 1, Given.M);
        program.wrap(0, 1, ~Given.M);
        program.copy(3, 0);
        checks.due("copy instead of another", Given.wrapRow(program, 0), Given.WRAP_ROW);
        program.copy(3, 3);
        checks.due("copy to itself", Given.wrapRow(program, 3), Given.WRAP_ROW);
        for (int place : Given.NO_PLACES) {
            checks.refused("copy from no place", ILLEGAL, () -> Given.copied(program, place, 0));
            checks.refused("copy to no place", ILLEGAL, () -> Given.copied(program, 3, place));
            checks.refused("copy nothing to no place", ILLEGAL,
                    () -> Given.copied(program, 1, place));
        }
        checks.refused("copy nothing", MISSING, () -> Given.copied(program, 1, 3));
        checks.refused("copy nothing to itself", MISSING, () -> Given.copied(program, 1, 1));
        checks.due("copy nothing empties nothing", Given.wrapRow(program, 3), Given.WRAP_ROW);
    }

    private void promise7Forget() {
        LatticeWraps program = Given.withWrap();
        program.make(2, 1L, 2L, 3L);
        program.copy(2, 1);
        checks.due("forget a key", program.forget(true, 2) ? 1 : 0, 1);
        checks.due("forget it again", program.forget(true, 2) ? 1 : 0, 0);
        checks.refused("it is forgotten", MISSING, () -> program.publicByte(2, 0));
        checks.due("the wrap of that number is not", Given.wrapRow(program, 2), Given.WRAP_ROW);
        checks.due("forget a wrap", program.forget(false, 1) ? 1 : 0, 1);
        checks.due("forget it again", program.forget(false, 1) ? 1 : 0, 0);
        checks.refused("it is forgotten", MISSING, () -> program.wrapByte(1, 0));
        checks.due("the key of that number is not", Given.publicRow(program, 1), Given.PUBLIC_ROW);
        checks.due("forget a wrap's key", program.forget(true, 1) ? 1 : 0, 1);
        checks.due("the wrap is there", Given.wrapRow(program, 2), Given.WRAP_ROW);
        program.make(1, 11L, -22L, 33L);
        checks.due("the key made again unwraps", program.unwrap(2, 1), Given.SECRET);
        for (int place : Given.NO_PLACES) {
            checks.refused("forget no key", ILLEGAL, () -> program.forget(true, place) ? 1 : 0);
            checks.refused("forget no wrap", ILLEGAL, () -> program.forget(false, place) ? 1 : 0);
        }
    }

    private void promise8WrapByte() {
        LatticeWraps program = Given.withWrap();
        checks.due("wrapByte, all", Given.wrapRow(program, 2), Given.WRAP_ROW);
        for (int place : Given.NO_PLACES) {
            checks.refused("wrapByte in no place", ILLEGAL, () -> program.wrapByte(place, -1));
        }
        checks.refused("wrapByte in an empty place", MISSING, () -> program.wrapByte(1, 90));
        checks.refused("wrapByte -1", OUTSIDE, () -> program.wrapByte(2, -1));
        checks.refused("wrapByte 90", OUTSIDE, () -> program.wrapByte(2, 90));
        checks.refused("wrapByte, far", OUTSIDE, () -> program.wrapByte(2, Integer.MIN_VALUE));
    }

    private void promise9PublicByte() {
        LatticeWraps program = Given.withWrap();
        checks.due("publicByte, all", Given.publicRow(program, 1), Given.PUBLIC_ROW);
        for (int place : Given.NO_PLACES) {
            checks.refused("publicByte in no place", ILLEGAL, () -> program.publicByte(place, -1));
        }
        checks.refused("publicByte in an empty place", MISSING, () -> program.publicByte(2, 68));
        checks.refused("publicByte -1", OUTSIDE, () -> program.publicByte(1, -1));
        checks.refused("publicByte 68", OUTSIDE, () -> program.publicByte(1, 68));
        checks.refused("publicByte, far", OUTSIDE, () -> program.publicByte(1, Integer.MAX_VALUE));
    }

    private void promise10Entry() {
        LatticeWraps program = Given.withKey();
        int[][] due = {
            {0, 0, 0, 4729}, {0, 0, 7, 8255}, {0, 7, 0, 12057}, {0, 7, 7, 31523}, {0, 4, 5, 1800},
            {1, 0, 0, 32766}, {1, 0, 3, 2}, {1, 7, 0, 0}, {1, 7, 3, 1}, {1, 4, 2, 6},
            {2, 0, 0, 5462}, {2, 0, 3, 28856}, {2, 7, 0, 18409}, {2, 7, 3, 24267}, {2, 4, 2, 3241},
            {3, 0, 0, 32767}, {3, 0, 3, 5}, {3, 7, 0, 0}, {3, 7, 3, 32767}, {3, 4, 1, 4}
        };
        for (int[] row : due) {
            checks.due("entry", program.entry(1, row[0], row[1], row[2]), row[3]);
        }
        for (int which = 0; which < 4; which++) {
            int w = which;
            int columns = which == 0 ? 8 : 4;
            checks.refused("entry, row 8", OUTSIDE, () -> program.entry(1, w, 8, 0));
            checks.refused("entry, row -1", OUTSIDE, () -> program.entry(1, w, -1, 0));
            checks.refused("entry, column -1", OUTSIDE, () -> program.entry(1, w, 1, -1));
            checks.refused("entry, last column", OUTSIDE, () -> program.entry(1, w, 0, columns));
            checks.refused("entry, far", OUTSIDE,
                    () -> program.entry(1, w, Integer.MIN_VALUE, Integer.MAX_VALUE));
            checks.refused("entry in an empty place", MISSING, () -> program.entry(0, w, 8, 8));
        }
        for (int none : Given.NO_PLACES) {
            checks.refused("entry in no place", ILLEGAL, () -> program.entry(none, 0, 0, 0));
            checks.refused("entry of no matrix", ILLEGAL, () -> program.entry(1, none, 0, 0));
            checks.refused("entry of no matrix, empty", ILLEGAL,
                    () -> program.entry(0, none, 9, 9));
        }
    }

    private void promise11Noise() {
        LatticeWraps program = Given.withWrap();
        for (int i = 0; i < 4; i++) {
            for (int j = 0; j < 4; j++) {
                checks.due("noise", program.noise(2, 1, i, j), NOISE[i][j]);
            }
        }
        checks.due("noise leaves the wrap", Given.wrapRow(program, 2), Given.WRAP_ROW);
        for (int none : Given.NO_PLACES) {
            checks.refused("noise in no place", ILLEGAL, () -> program.noise(none, 0, 4, 4));
            checks.refused("noise by no place", ILLEGAL, () -> program.noise(0, none, 4, 4));
            checks.refused("noise, no row", OUTSIDE, () -> program.noise(2, 1, none, 0));
            checks.refused("noise, no column", OUTSIDE, () -> program.noise(2, 1, 0, none));
        }
        checks.refused("noise in an empty place", MISSING, () -> program.noise(0, 1, 4, 4));
        checks.refused("noise by an empty place", MISSING, () -> program.noise(2, 0, 4, 4));
    }

    /** Sets entry (0, 0) of M to the numbers where the bits that are read change over. */
    private void promises11And12AtTheEdges() {
        int[][] due = {
            {0, 0, 0}, {1, 0, 1}, {32767, 0, -1},
            {4095, 0, 4095}, {4096, 1, -4096}, {8191, 1, -1}, {8192, 1, 0},
            {12287, 1, 4095}, {12288, 2, -4096}, {16384, 2, 0},
            {20479, 2, 4095}, {20480, 3, -4096}, {24576, 3, 0},
            {28671, 3, 4095}, {28672, 0, -4096}
        };
        for (int[] row : due) {
            LatticeWraps program = Given.withWrap();
            setFirstOfM(program, row[0]);
            checks.due("read at " + row[0], program.read(2, 1), (Given.M & ~3) | row[1]);
            checks.due("noise at " + row[0], program.noise(2, 1, 0, 0), row[2]);
            checks.due("noise beside it", program.noise(2, 1, 0, 1), NOISE[0][1]);
        }
    }

    private static void setFirstOfM(LatticeWraps program, int wanted) {
        int sum = wanted;
        for (int k = 0; k < 8; k++) {
            int x = 0;
            for (int bit = 15 * k; bit < 15 * k + 15; bit++) {
                x = 2 * x + (program.wrapByte(2, bit / 8) >> (7 - bit % 8) & 1);
            }
            sum += x * program.entry(1, 1, k, 0);
        }
        int y = Math.floorMod(sum, 32768);
        program.change(2, 60, program.wrapByte(2, 60) ^ (y >> 7));
        program.change(2, 61, (program.wrapByte(2, 61) ^ (y << 1)) & 254);
    }

    private void promise12Read() {
        LatticeWraps program = Given.withWrap();
        checks.due("read", program.read(2, 1), Given.M);
        program.make(0, Long.MIN_VALUE, Long.MAX_VALUE, 0L);
        checks.due("read with another key", program.read(2, 0), -601360770);
        program.change(2, 0, 1);
        checks.due("read, a small change", program.read(2, 1), Given.M);
        checks.due("read leaves the rest", Given.wrapRow(program, 2).substring(2),
                Given.WRAP_ROW.substring(2));
        for (int none : Given.NO_PLACES) {
            checks.refused("read in no place", ILLEGAL, () -> program.read(none, 2));
            checks.refused("read by no place", ILLEGAL, () -> program.read(0, none));
        }
        checks.refused("read in an empty place", MISSING, () -> program.read(0, 1));
        checks.refused("read by an empty place", MISSING, () -> program.read(2, 2));
    }

    private void promise13Shake() {
        long[] due = {
            9043949231062883455L, -1522688545690088153L, 7700354587348936068L,
            358646089883893131L, -7665768727006403778L, 6258786501071610660L,
            -430643706243550391L, -797090527626261339L, 3387754380135033515L
        };
        LatticeWraps program = new LatticeWraps();
        for (int n = 0; n <= 8; n++) {
            checks.due("shake " + n, program.shake(n, 0x8877665544332211L), due[n]);
        }
        checks.due("shake of no bytes", program.shake(0, -1L), due[0]);
        checks.due("shake of one byte", program.shake(1, 0x11L), due[1]);
        checks.refused("shake -1", ILLEGAL, () -> program.shake(-1, 0L));
        checks.refused("shake 9", ILLEGAL, () -> program.shake(9, 0L));
        checks.refused("shake, far", ILLEGAL, () -> program.shake(Integer.MIN_VALUE, 0L));
        checks.refused("shake, far", ILLEGAL, () -> program.shake(Integer.MAX_VALUE, 0L));
    }

    private void callsThatThrowChangeNothing() {
        LatticeWraps program = Given.withWrap();
        Checks.outcome(() -> program.make(4, 1L, 2L, 3L));
        Checks.outcome(() -> program.wrap(2, 0, 5));
        Checks.outcome(() -> program.wrap(0, 0, 5));
        Checks.outcome(() -> program.wrap(2, 4, 5));
        Checks.outcome(() -> Given.copied(program, 0, 2));
        Checks.outcome(() -> Given.copied(program, 2, 4));
        Checks.outcome(() -> program.change(2, 90, 1));
        Checks.outcome(() -> program.forget(false, 4) ? 1 : 0);
        checks.due("refused calls leave the wrap", Given.wrapRow(program, 2), Given.WRAP_ROW);
        checks.due("refused calls leave the key", Given.publicRow(program, 1), Given.PUBLIC_ROW);
        for (int place = 0; place < 4; place++) {
            int p = place;
            if (p != 2) {
                checks.refused("refused calls fill no wrap", MISSING, () -> program.wrapByte(p, 0));
            }
            if (p != 1) {
                checks.refused("refused calls fill no key", MISSING,
                        () -> program.publicByte(p, 0));
            }
        }
    }
}
