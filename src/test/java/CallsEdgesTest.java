import java.util.NoSuchElementException;

/**
 * The boundary cases that the document names call by call, promise 1 to 13, a test for each
 * sentence; its refusals are RefusalsTest's. No object is used for more than its 512 calls.
 */
public final class CallsEdgesTest {
    private static final Class<NoSuchElementException> MISSING = NoSuchElementException.class;

    private final Checks checks = new Checks();

    public static void main(String[] args) {
        CallsEdgesTest test = new CallsEdgesTest();
        test.allPlacesAreEmptyAtFirst();
        test.objectsShareNoPlaces();
        test.makeInsteadOfWhatIsThere();
        test.makeChangesNoOtherPlace();
        test.wrapInsteadOfWhatIsThere();
        test.wrapNeedsNoWrapBefore();
        test.wrapOutlivesItsKey();
        test.unwrapChangesNothing();
        test.changeByTheLowestEightBits();
        test.changeOfTheFirstAndLastByte();
        test.copyInsteadOfWhatIsThere();
        test.copyToTheSamePlace();
        test.copiesAreTwoWraps();
        test.forgetEmptiesOnePlaceOnly();
        test.forgetTellsWhetherItWasEmpty();
        test.forgottenPlacesAreFilledAgain();
        test.bytesAre0To255();
        test.publicBytesAre0To255();
        test.entriesAtTheCorners();
        test.entriesAre0To32767();
        test.noiseIsMinus4096To4095();
        test.readOfTheFarthestInts();
        test.shakeOfTheLowestBytesOnly();
        test.checks.end("CallsEdgesTest");
    }

    /** All eight places filled: key p is made of 1, p and p, wrap p is that of p for key p. */
    private static LatticeWraps filled() {
        LatticeWraps program = new LatticeWraps();
        for (int place = 0; place < 4; place++) {
            program.make(place, 1L, place, place);
            program.wrap(place, place, place);
        }
        return program;
    }

    /** Promise 1: "All places are empty." */
    private void allPlacesAreEmptyAtFirst() {
        LatticeWraps program = new LatticeWraps();
        for (int place = 0; place < 4; place++) {
            int p = place;
            checks.refused("new: wrapByte", MISSING, () -> program.wrapByte(p, 0));
            checks.refused("new: change", MISSING, () -> program.change(p, 0, 1));
            checks.refused("new: copy", MISSING, () -> Given.copied(program, p, 3 - p));
            checks.refused("new: publicByte", MISSING, () -> program.publicByte(p, 0));
            checks.refused("new: entry", MISSING, () -> program.entry(p, 0, 0, 0));
            checks.refused("new: wrap", MISSING, () -> program.wrap(p, p, 0));
            checks.refused("new: unwrap", MISSING, () -> program.unwrap(p, p));
            checks.refused("new: read", MISSING, () -> program.read(p, p));
            checks.refused("new: noise", MISSING, () -> program.noise(p, p, 0, 0));
            checks.due("new: forget a key", Given.forgotten(program, true, p), 0);
            checks.due("new: forget a wrap", Given.forgotten(program, false, p), 0);
        }
    }

    /** Promise 1, with other objects there already. */
    private void objectsShareNoPlaces() {
        LatticeWraps first = filled();
        LatticeWraps second = new LatticeWraps();
        for (int place = 0; place < 4; place++) {
            checks.due("a second: forget a key", Given.forgotten(second, true, place), 0);
            checks.due("a second: forget a wrap", Given.forgotten(second, false, place), 0);
            checks.due("the first: read", first.read(place, place), place);
        }
    }

    /** Promise 2: "Makes a key in a place, instead of what is there": nothing of that one stays. */
    private void makeInsteadOfWhatIsThere() {
        for (int place = 0; place < 4; place++) {
            LatticeWraps program = filled();
            checks.due("make instead", program.make(place, Given.S, Given.E, Given.Z), Given.MARK);
            checks.due("its public row", Given.publicRow(program, place), Given.PUBLIC_ROW);
            checks.due("its wrap", program.wrap(0, place, Given.M), Given.SECRET);
            checks.due("its S", program.read(0, place), Given.M);
            program.change(0, 0, 1);
            checks.due("its s", program.unwrap(0, place), 7871650760051221841L);
            checks.due("its A", program.entry(place, 0, 7, 7), 31523);
            checks.due("its E", program.entry(place, 3, 4, 1), 4);
        }
    }

    /** Promise 2: "in a place", and in no other; the wraps stay, too. */
    private void makeChangesNoOtherPlace() {
        for (int place = 0; place < 4; place++) {
            LatticeWraps program = filled();
            program.make(place, Given.S, Given.E, Given.Z);
            for (int other = 0; other < 4; other++) {
                if (other != place) {
                    sameAsFilled("make in " + place, program, other);
                } else {
                    checks.due("the wrap there", Given.wrapRow(program, other),
                            Given.wrapRow(filled(), other));
                }
            }
        }
    }

    /** A key and a wrap of filled(), in 92 calls. */
    private void sameAsFilled(String after, LatticeWraps program, int place) {
        LatticeWraps due = filled();
        checks.due(after + ": wrap " + place, Given.wrapRow(program, place),
                Given.wrapRow(due, place));
        checks.due(after + ": the secret of " + place, program.unwrap(place, place),
                due.unwrap(place, place));
        checks.due(after + ": the last public byte of " + place, program.publicByte(place, 67),
                due.publicByte(place, 67));
    }

    /** Promise 3: "the wrap is in a place then, instead of what is there". */
    private void wrapInsteadOfWhatIsThere() {
        for (int place = 0; place < 4; place++) {
            LatticeWraps program = filled();
            program.make(0, Given.S, Given.E, Given.Z);
            checks.due("wrap instead", program.wrap(place, 0, Given.M), Given.SECRET);
            checks.due("the wrap", Given.wrapRow(program, place), Given.WRAP_ROW);
            for (int other = 1; other < 4; other++) {
                if (other != place) {
                    sameAsFilled("wrap in " + place, program, other);
                }
            }
        }
    }

    /** Promise 3: only the key's place may not be empty, and it may have another number. */
    private void wrapNeedsNoWrapBefore() {
        for (int key = 0; key < 4; key++) {
            LatticeWraps program = new LatticeWraps();
            program.make(key, Given.S, Given.E, Given.Z);
            for (int wrap = 0; wrap < 4; wrap++) {
                checks.due("wrap in " + wrap + " for " + key, program.wrap(wrap, key, Given.M),
                        Given.SECRET);
                checks.due("unwrap " + wrap + " with " + key, program.unwrap(wrap, key),
                        Given.SECRET);
            }
        }
    }

    /** Promises 3 and 7: a wrap does not need its key any more, but unwrapping does. */
    private void wrapOutlivesItsKey() {
        LatticeWraps program = Given.withWrap();
        program.forget(true, 1);
        checks.due("the wrap of a forgotten key", Given.wrapRow(program, 2), Given.WRAP_ROW);
        checks.refused("unwrap with it", MISSING, () -> program.unwrap(2, 1));
        program.make(0, Given.S, Given.E, Given.Z);
        checks.due("unwrap with the same key elsewhere", program.unwrap(2, 0), Given.SECRET);
    }

    /** Promises 4, 11 and 12: looking leaves all places as they are, refused or accepted. */
    private void unwrapChangesNothing() {
        LatticeWraps program = Given.withWrap();
        program.make(3, 1L, 3L, 3L);
        for (int key = 1; key <= 3; key += 2) {
            program.unwrap(2, key);
            program.read(2, key);
            program.noise(2, key, 3, 3);
            checks.due("the wrap after unwrap", Given.wrapRow(program, 2), Given.WRAP_ROW);
            checks.due("the key after unwrap", Given.publicRow(program, 1), Given.PUBLIC_ROW);
        }
        for (int place = 0; place < 4; place++) {
            checks.due("wrap " + place + " after unwrap",
                    Given.forgotten(program, false, place), place == 2 ? 1 : 0);
        }
    }

    /** Promise 5: "xored with the lowest eight bits of x: what it is then (0 .. 255)". */
    private void changeByTheLowestEightBits() {
        int[] numbers = {
            0, 1, 127, 128, 255, 256, 257, 511, 0x100ff, -1, -128, -256, 0x7fffff80,
            Integer.MIN_VALUE, Integer.MAX_VALUE
        };
        LatticeWraps program = Given.withWrap();
        int value = 0xa4;
        for (int x : numbers) {
            value ^= Math.floorMod(x, 256);
            checks.due("change by " + x, program.change(2, 0, x), value);
            checks.due("after it", program.wrapByte(2, 0), value);
        }
        for (int x = 0; x < 200; x++) {
            value ^= x;
            checks.due("change by " + x, program.change(2, 0, x), value);
        }
    }

    /** Promise 5: "Byte i of a wrap", from 0 to 89, and no other byte. */
    private void changeOfTheFirstAndLastByte() {
        int[] bytes = {0, 1, 7, 8, 59, 60, 88, 89};
        for (int i : bytes) {
            LatticeWraps program = Given.withWrap();
            int due = Integer.parseInt(Given.WRAP_ROW.substring(2 * i, 2 * i + 2), 16) ^ 0x5a;
            checks.due("change byte " + i, program.change(2, i, 0x5a), due);
            String row = Given.WRAP_ROW.substring(0, 2 * i) + String.format("%02x", due)
                    + Given.WRAP_ROW.substring(2 * i + 2);
            checks.due("all bytes then", Given.wrapRow(program, 2), row);
            checks.due("change it back", program.change(2, i, 0x5a), due ^ 0x5a);
            checks.due("then it is accepted", program.unwrap(2, 1), Given.SECRET);
        }
    }

    /** Promise 6: "A wrap is in another place, too, instead of what is there." */
    private void copyInsteadOfWhatIsThere() {
        for (int from = 0; from < 4; from++) {
            for (int to = 0; to < 4; to++) {
                LatticeWraps full = filled();
                full.copy(from, to);
                checks.due("copy to a full place", full.read(to, from), from);
                checks.due("and it is still here", full.read(from, from), from);
                LatticeWraps empty = Given.withKey();
                empty.wrap(from, 1, Given.M);
                empty.copy(from, to);
                checks.due("copy to an empty place", empty.unwrap(to, 1), Given.SECRET);
                checks.due("and it is still there", empty.unwrap(from, 1), Given.SECRET);
            }
        }
    }

    /** Promise 6, both places being the same one. */
    private void copyToTheSamePlace() {
        for (int place = 0; place < 4; place++) {
            LatticeWraps program = filled();
            program.copy(place, place);
            for (int other = 0; other < 4; other++) {
                sameAsFilled("copy to itself", program, other);
            }
        }
    }

    /** Promise 6: there are two wraps then, of which one is changed or forgotten alone. */
    private void copiesAreTwoWraps() {
        LatticeWraps program = Given.withWrap();
        program.copy(2, 0);
        program.change(0, 89, 1);
        checks.due("the copy is changed, not the first", program.unwrap(2, 1), Given.SECRET);
        program.copy(2, 3);
        program.change(2, 0, 1);
        checks.due("the first is changed, not the copy", program.unwrap(3, 1), Given.SECRET);
        program.copy(3, 1);
        program.wrap(3, 1, ~Given.M);
        checks.due("the first is another, not the copy", program.unwrap(1, 1), Given.SECRET);
        program.copy(1, 0);
        program.forget(false, 1);
        checks.due("the first is forgotten, not the copy", program.unwrap(0, 1), Given.SECRET);
    }

    /** Promise 7: "A key's place, or a wrap's, becomes empty (nothing else does)". */
    private void forgetEmptiesOnePlaceOnly() {
        for (int place = 0; place < 8; place++) {
            LatticeWraps program = filled();
            program.forget(place < 4, place % 4);
            for (int other = 0; other < 4; other++) {
                int p = other;
                String key = place == p ? "throws.NoSuchElementException"
                        : Long.toString(filled().publicByte(p, 8));
                String wrap = place == p + 4 ? "throws.NoSuchElementException"
                        : Long.toString(filled().wrapByte(p, 8));
                checks.due("forget " + place + ", key " + p,
                        Checks.outcome(() -> program.publicByte(p, 8)), key);
                checks.due("forget " + place + ", wrap " + p,
                        Checks.outcome(() -> program.wrapByte(p, 8)), wrap);
            }
        }
    }

    /** Promise 7: "whether it was not" empty. */
    private void forgetTellsWhetherItWasEmpty() {
        LatticeWraps program = filled();
        for (int place = 0; place < 4; place++) {
            checks.due("forget a key", Given.forgotten(program, true, place), 1);
            checks.due("forget an empty key", Given.forgotten(program, true, place), 0);
            checks.due("forget a wrap", Given.forgotten(program, false, place), 1);
            checks.due("forget an empty wrap", Given.forgotten(program, false, place), 0);
        }
    }

    /** Promise 7: an empty place is one that make, wrap and copy fill again. */
    private void forgottenPlacesAreFilledAgain() {
        LatticeWraps program = filled();
        for (int place = 0; place < 4; place++) {
            program.forget(true, place);
            program.forget(false, place);
            checks.due("make again", program.make(place, Given.S, Given.E, Given.Z), Given.MARK);
            checks.due("wrap again", program.wrap(place, place, Given.M), Given.SECRET);
        }
        program.forget(false, 3);
        program.copy(0, 3);
        checks.due("copy again", program.unwrap(3, 3), Given.SECRET);
    }

    /** Promise 8: "Byte i (0 .. 255) of a wrap": the least and the largest byte in each place. */
    private void bytesAre0To255() {
        for (int value = 0; value <= 255; value += 255) {
            LatticeWraps program = Given.withWrap();
            Given.level(program, 2, value);
            for (int i = 0; i < 90; i++) {
                checks.due("wrapByte " + i, program.wrapByte(2, i), value);
            }
        }
    }

    /** Promise 9: "Byte i (0 .. 255) of a key's public row", the seed's and B's, 0 and 255. */
    private void publicBytesAre0To255() {
        LatticeWraps program = new LatticeWraps();
        program.make(0, 0L, 51730L, 51730L);
        checks.due("the first byte of the seed", program.publicByte(0, 0), 0xbe);
        checks.due("the last byte of the seed", program.publicByte(0, 7), 0x07);
        checks.due("the first byte of B", program.publicByte(0, 8), 255);
        checks.due("the last byte of B", program.publicByte(0, 67), 0xd5);
        program.make(0, 0L, 8629L, 8629L);
        checks.due("a last byte 0", program.publicByte(0, 67), 0);
        program.make(0, 0L, 24266L, 24266L);
        checks.due("a last byte 255", program.publicByte(0, 67), 255);
    }

    /** Promise 10: "Entry (i, j)" of A, with 8 columns, and of S, B and E, with 4. */
    private void entriesAtTheCorners() {
        int[][] due = {
            {0, 0, 0, 4729}, {0, 0, 7, 8255}, {0, 7, 0, 12057}, {0, 7, 7, 31523},
            {1, 0, 0, 32766}, {1, 0, 3, 2}, {1, 7, 0, 0}, {1, 7, 3, 1},
            {2, 0, 0, 5462}, {2, 0, 3, 28856}, {2, 7, 0, 18409}, {2, 7, 3, 24267},
            {3, 0, 0, 32767}, {3, 0, 3, 5}, {3, 7, 0, 0}, {3, 7, 3, 32767}
        };
        LatticeWraps program = Given.withKey();
        for (int[] row : due) {
            checks.due("entry of " + row[0], program.entry(1, row[0], row[1], row[2]), row[3]);
        }
        for (int which = 0; which < 4; which++) {
            int w = which;
            int columns = which == 0 ? 8 : 4;
            checks.refused("entry below the last row", IndexOutOfBoundsException.class,
                    () -> program.entry(1, w, 8, 0));
            checks.refused("entry behind the last column", IndexOutOfBoundsException.class,
                    () -> program.entry(1, w, 0, columns));
        }
    }

    /** Promise 10: "Entry (i, j), 0 .. 32767": what is less than 0 is counted from 32768. */
    private void entriesAre0To32767() {
        LatticeWraps program = new LatticeWraps();
        for (int key = 0; key < 3; key++) {
            program.make(0, 0L, key, key);
            for (int k = 0; k < 160; k++) {
                int which = k < 64 ? 0 : k / 32 - 1;
                int columns = which == 0 ? 8 : 4;
                int at = k < 64 ? k : k % 32;
                int entry = program.entry(0, which, at / columns, at % columns);
                checks.due("entry " + entry + " is 0 .. 32767", entry >>> 15, 0);
            }
        }
    }

    /** Promise 11: "of all numbers that are counted as the same the one from -4096 to 4095". */
    private void noiseIsMinus4096To4095() {
        int[][] due = {
            {0, 0}, {4095, 4095}, {4096, -4096}, {8191, -1}, {8192, 0}, {8193, 1},
            {12287, 4095}, {12288, -4096}, {16384, 0}, {20479, 4095}, {20480, -4096}, {24576, 0},
            {28671, 4095}, {28672, -4096}, {32767, -1}
        };
        for (int[] row : due) {
            LatticeWraps program = Given.withWrap();
            Given.level(program, 2, 0);
            putInAllOfY(program, row[0]);
            for (int entry = 0; entry < 16; entry++) {
                checks.due("noise of " + row[0], program.noise(2, 1, entry / 4, entry % 4), row[1]);
            }
        }
    }

    /** Changes the wrap of 0s in place 2: X stays 0, and so M is Y. */
    private static void putInAllOfY(LatticeWraps program, int value) {
        for (int bit = 0; bit < 16 * 15; bit++) {
            if ((value >> (14 - bit % 15) & 1) == 1) {
                program.change(2, 60 + bit / 8, 128 >> bit % 8);
            }
        }
    }

    /** Promise 12: "The m that is read in unwrapping", of all ints. */
    private void readOfTheFarthestInts() {
        int[] messages = {
            0, 1, -1, Integer.MIN_VALUE, Integer.MIN_VALUE + 1, Integer.MAX_VALUE, 0x55555555,
            0xaaaaaaaa
        };
        LatticeWraps program = Given.withKey();
        for (int m : messages) {
            program.wrap(2, 1, m);
            checks.due("read " + m, program.read(2, 1), m);
        }
        Given.level(program, 2, 0);
        checks.due("read 0 in every entry", program.read(2, 1), 0);
        putInAllOfY(program, 24576);
        checks.due("read 24576 in every entry", program.read(2, 1), -1);
    }

    /** Promise 13: "the lowest n bytes of a, the lowest first": the others do not count. */
    private void shakeOfTheLowestBytesOnly() {
        LatticeWraps program = new LatticeWraps();
        checks.due("shake of no bytes", program.shake(0, 0L), 9043949231062883455L);
        for (int n = 0; n < 8; n++) {
            long higher = -1L << 8 * n;
            checks.due("shake " + n + ", higher bytes", program.shake(n, higher),
                    program.shake(n, 0L));
            long lower = program.shake(n + 1, higher);
            checks.due("shake " + (n + 1) + " counts byte " + n,
                    lower == program.shake(n + 1, 0L) ? 1 : 0, 0);
        }
        checks.due("shake of 8 bytes", program.shake(8, 0x8877665544332211L), 3387754380135033515L);
    }
}
