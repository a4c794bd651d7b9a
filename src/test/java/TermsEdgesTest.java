/**
 * The boundary cases that the document names under "What it is" and "Terms", a test for each
 * sentence. Inputs that hit an edge (a sample that is just a bound, an entry that comes out as 0 or
 * 32767) were searched for beforehand. No object is used for more than its 512 calls.
 */
public final class TermsEdgesTest {
    private static final int Q = 32768;

    private final Checks checks = new Checks();

    public static void main(String[] args) {
        TermsEdgesTest test = new TermsEdgesTest();
        test.anObjectLasts512Calls();
        test.shakeMarksTheEndOfTheRow();
        test.shakeFillsLanes();
        test.shakeOfTheLongestRow();
        test.shakeOfTheLongestResult();
        test.intsAreFourBytesAndLongsEight();
        test.samplesAtEveryBound();
        test.sumsAreCountedModulo32768();
        test.packingOfTheFirstAndLastEntryOfB();
        test.packingOfTheFirstAndLastEntryOfXAndY();
        test.unpackingOfEveryBit();
        test.entriesOfAAreCut();
        test.everyBitOfAMessageIsCoded();
        test.codesAreCountedModulo32768();
        test.farthestSamplesInAWrap();
        test.bitsAreReadFromWhereTheyChangeOver();
        test.theSameWrapOnlyIsAccepted();
        test.anotherMessagesWrapIsAccepted();
        test.otherwiseTheSecretComesFromS();
        test.placesAre0To3();
        test.checks.end("TermsEdgesTest");
    }

    /** "An object is used for at most 512 calls after it has been made". */
    private void anObjectLasts512Calls() {
        LatticeWraps program = Given.withWrap();
        for (int call = 3; call < 512; call++) {
            checks.due("call " + call, program.unwrap(2, 1), Given.SECRET);
        }
        checks.due("the 512th call", program.unwrap(2, 1), Given.SECRET);
    }

    /** "the row, a byte 31, and bytes 0 up to 168 bytes in all": rows of 0s differ by their end. */
    private void shakeMarksTheEndOfTheRow() {
        long[] due = {
            9043949231062883455L, 256250669907081227L, -6145008289831996910L,
            -3620603884643435980L, -6873473604008503409L, -2269854407350968358L,
            2874414473882945483L, 5297598791251730062L, -7468035969456397190L
        };
        LatticeWraps program = new LatticeWraps();
        for (int n = 0; n <= 8; n++) {
            checks.due("shake of " + n + " bytes 0", program.shake(n, 0L), due[n]);
        }
        checks.due("shake of a byte 31", program.shake(1, 31L), -717981092360375464L);
        checks.due("shake of a byte 128", program.shake(1, 128L), -6351751676138914292L);
        checks.due("shake of a byte 255", program.shake(1, 255L), 7732651037008459339L);
    }

    /** "byte k is bits 8 * (k mod 8) to 8 * (k mod 8) + 7": the highest bit of the last byte. */
    private void shakeFillsLanes() {
        LatticeWraps program = new LatticeWraps();
        checks.due("shake of the bytes up to a lane's last", program.shake(7, -1L),
                4420929936178902181L);
        checks.due("shake of a lane", program.shake(8, -1L), -7892001164149658214L);
        checks.due("shake of a lane's highest bit", program.shake(8, Long.MIN_VALUE),
                -1811011543319930915L);
    }

    /** "a row of at most 166 bytes": the longest one that is shaken, a wrap and a long, has 98. */
    private void shakeOfTheLongestRow() {
        LatticeWraps program = Given.withWrap();
        Given.level(program, 2, 255);
        program.make(1, -1L, Given.E, Given.Z);
        checks.due("shake of 98 bytes 255", program.unwrap(2, 1), -1276941100770853852L);
    }

    /** "n is at most 168": the last bytes of the longest results, of 128 and 160 bytes, count. */
    private void shakeOfTheLongestResult() {
        LatticeWraps program = Given.withKey();
        program.make(0, 0L, 0L, 0L);
        checks.due("the first of 128 bytes", program.entry(0, 1, 0, 0), 0);
        checks.due("the last of 128 bytes", program.entry(0, 3, 7, 3), 32766);
        program.wrap(0, 1, -1);
        checks.due("all of 160 bytes", Given.wrapRow(program, 0),
                "9fcc2d415665fd8bf229f75e5e8ed836edf09bfb8ffe1fdfbbdb0e773f5d9e05d1326b6ab468"
                + "3739441922884a5ed14ddf08d62c91654cba34dc585a4331893b9d0e03e83779498b54e3b053"
                + "818a8daacd67b341c9c3bf31e1bb");
    }

    /** "An int or long in a row is its 4 or 8 bytes, the lowest first". */
    private void intsAreFourBytesAndLongsEight() {
        LatticeWraps program = Given.withKey();
        checks.due("wrap 0", program.wrap(0, 1, 0), -2855496946633060799L);
        checks.due("wrap -1", program.wrap(0, 1, -1), -8208536951575716643L);
        checks.due("wrap the least int", program.wrap(0, 1, Integer.MIN_VALUE),
                8545663164194810712L);
        checks.due("wrap the largest int", program.wrap(0, 1, Integer.MAX_VALUE),
                -6181423973761193229L);
        long[] longs = {0L, -1L, Long.MIN_VALUE, Long.MAX_VALUE};
        long[] marks = {
            -6968324328072756051L, -799671833009156977L,
            9042899717035362670L, -6589255612879879234L
        };
        for (int k = 0; k < longs.length; k++) {
            checks.due("make of " + longs[k], program.make(0, longs[k], longs[k], longs[k]),
                    marks[k]);
        }
    }

    /**
     * "how many of .. are less than r / 2 (cut), or 0 minus that if r is odd": at each bound and
     * one above it, r being even and odd, and the least and the largest r.
     */
    private void samplesAtEveryBound() {
        // r, the e that it comes from, and where the sample is and what
        int[][] due = {
        {0, 1910, 3, 3, 0, 0}, {1, 169, 3, 5, 1, 0}, {9286, 191, 3, 7, 2, 0},
        {9287, 696, 1, 7, 2, 0}, {9288, 17, 1, 7, 3, 1}, {9289, 3393, 3, 1, 3, 32767},
        {26726, 322, 1, 3, 2, 1}, {26727, 802, 1, 5, 0, 32767}, {26728, 2725, 1, 4, 0, 2},
        {26729, 306, 1, 6, 0, 32766}, {41158, 441, 1, 2, 3, 2}, {41159, 2094, 1, 3, 1, 32766},
        {41160, 390, 3, 6, 1, 3}, {41161, 555, 3, 0, 2, 32765}, {51686, 2447, 1, 0, 3, 3},
        {51687, 1573, 3, 3, 1, 32765}, {51688, 138, 1, 0, 0, 4}, {51689, 1506, 1, 0, 3, 32764},
        {58454, 927, 1, 5, 1, 4}, {58455, 1217, 3, 5, 3, 32764}, {58456, 498, 1, 2, 2, 5},
        {58457, 951, 1, 4, 3, 32763}, {62290, 818, 1, 1, 0, 5}, {62291, 1038, 3, 1, 3, 32763},
        {62292, 86, 1, 1, 2, 6}, {62293, 764, 3, 0, 1, 32762}, {64206, 3895, 1, 2, 3, 6},
        {64207, 295, 1, 1, 0, 32762}, {64208, 1056, 1, 7, 2, 7}, {64209, 4042, 3, 5, 1, 32761},
        {65050, 139, 1, 7, 2, 7}, {65051, 53, 3, 3, 3, 32761}, {65052, 1122, 3, 0, 0, 8},
        {65053, 13, 3, 0, 2, 32760}, {65378, 2088, 3, 3, 1, 8}, {65379, 349, 3, 4, 0, 32760},
        {65380, 697, 3, 6, 2, 9}, {65381, 1538, 3, 5, 2, 32759}, {65490, 664, 1, 2, 2, 9},
        {65491, 948, 3, 0, 0, 32759}, {65492, 578, 3, 6, 3, 10}, {65493, 208, 1, 4, 2, 32758},
        {65524, 972, 1, 0, 2, 10}, {65525, 5, 1, 3, 3, 32758}, {65526, 522, 1, 1, 0, 11},
        {65527, 14, 3, 0, 0, 32757}, {65532, 2176, 1, 0, 1, 11}, {65533, 15, 1, 6, 1, 32757},
        {65534, 560, 1, 5, 3, 12}, {65535, 294, 1, 2, 3, 32756},
        };
        LatticeWraps program = new LatticeWraps();
        for (int[] row : due) {
            program.make(0, 0L, row[1], 0L);
            checks.due("the sample of " + row[0], program.entry(0, row[2], row[3], row[4]), row[5]);
        }
    }

    /** "MATRICES have entries that are counted modulo 32768": E carries B over, or just not. */
    private void sumsAreCountedModulo32768() {
        // e and z, where the entry is, and E and B there
        int[][] due = {
            {699, 3, 0, 2, 0}, {860, 7, 0, 32765, 0},
            {3838, 0, 2, 3, 32767}, {4101, 1, 0, 32763, 32767}
        };
        LatticeWraps program = new LatticeWraps();
        for (int[] row : due) {
            program.make(0, 0L, row[0], row[0]);
            checks.due("E that carries over", program.entry(0, 3, row[1], row[2]), row[3]);
            checks.due("B at its edge", program.entry(0, 2, row[1], row[2]), row[4]);
        }
        int[][] bigA = entries(program, 0, 8);
        int[][] bigS = entries(program, 1, 4);
        for (int k = 0; k < 32; k++) {
            long sum = program.entry(0, 3, k / 4, k % 4);
            for (int at = 0; at < 8; at++) {
                sum += (long) bigA[k / 4][at] * bigS[at][k % 4];
            }
            checks.due("B(" + k / 4 + ", " + k % 4 + ")", program.entry(0, 2, k / 4, k % 4),
                    Math.floorMod(sum, Q));
        }
    }

    private static int[][] entries(LatticeWraps program, int which, int columns) {
        int[][] matrix = new int[8][columns];
        for (int i = 0; i < 8; i++) {
            for (int j = 0; j < columns; j++) {
                matrix[i][j] = program.entry(0, which, i, j);
            }
        }
        return matrix;
    }

    /** "PACKING .. as 15 bits each, the highest first": all bits 0 or 1, first and last. */
    private void packingOfTheFirstAndLastEntryOfB() {
        packedB(405, 0, 0, 0, "2c51718f3368377200001b460c8474034f09740e7931c8abc936f3e3d969ecccb0a2"
                + "eea95eca52b97df7dfc8931173b180e6719329460c695357d61d399a49468ba2f159");
        packedB(51730, 0, 0, 32767, "bee49a0766447a07ffff5a1e7063d1284f74ce112e91a8a105c3bd0557b8e2"
                + "4ab3624c25acfe7ce98811c93445e8263cc0db91f29f68c7cec8083ff801f811f08c178fd5");
        packedB(8629, 7, 3, 0, "6350a010ff28428ccfd35f2b4e9f6904a9045c303b5a710f005cfab7763c3d16779"
                + "70e5b0e645071d9173d089b2445b198636bebefe6396e999917de461abff4b9598000");
        packedB(24266, 7, 3, 32767, "e45ba60b7a59aa9965249f059c77789e7d161d70693629bef11f38253d5838"
                + "b3eeb3eb32c51d0e6b82681c7b3f0d1f9da2a65545fbcef1e0cd65e22a597ae5be591d7fff");
    }

    private void packedB(long from, int i, int j, int entry, String publicRow) {
        LatticeWraps program = new LatticeWraps();
        program.make(0, 0L, from, from);
        checks.due("B of " + from, program.entry(0, 2, i, j), entry);
        checks.due("the public row of " + from, Given.publicRow(program, 0), publicRow);
    }

    /** The same of X and Y: their first and last entries being 0 and 32767. */
    private void packingOfTheFirstAndLastEntryOfXAndY() {
        int[] messages = {1035, 8051, 22787, 46979, 26172, 11607, 51543, 28848};
        int[] firstBytes = {0, 0, 58, 58, 60, 60, 88, 88};
        String[] due = {"0001", "ffff", "0000", "7fff", "0001", "ffff", "0000", "ffff"};
        long[] secrets = {
            5232309686783241044L, 2400432789544509289L, 1705345731290351499L, 8400053259419821291L,
            884187778286572109L, 3625267411505065468L, 6315250076721092868L, -7877523570363004937L
        };
        for (int k = 0; k < messages.length; k++) {
            LatticeWraps program = Given.withKey();
            checks.due("wrap " + messages[k], program.wrap(0, 1, messages[k]), secrets[k]);
            int at = 2 * firstBytes[k];
            checks.due("its edge", Given.wrapRow(program, 0).substring(at, at + 4), due[k]);
            checks.due("unwrap it", program.unwrap(0, 1), secrets[k]);
        }
    }

    /** "one behind the other; byte by byte, the first bit being the highest of its byte". */
    private void unpackingOfEveryBit() {
        for (int entry = 0; entry < 48; entry++) {
            LatticeWraps program = Given.withWrap();
            Given.level(program, 2, 0);
            for (int place = 0; place < 15; place++) {
                int bit = 15 * entry + place;
                program.change(2, bit / 8, 128 >> bit % 8);
                bitIsUnpacked(program, entry, 16384 >> place);
                program.change(2, bit / 8, 128 >> bit % 8);
            }
        }
    }

    /** In a wrap of 0s but for one entry, M is that entry of Y, or that of X times a row of -S. */
    private void bitIsUnpacked(LatticeWraps program, int entry, int value) {
        int i = entry < 32 ? entry / 8 : (entry - 32) / 4;
        int m = program.read(2, 1);
        for (int j = 0; j < 4; j++) {
            int due = 0;
            if (entry < 32) {
                due = Math.floorMod(-value * program.entry(1, 1, entry % 8, j), Q);
            } else if (entry % 4 == j) {
                due = value;
            }
            int bits = m >>> (8 * i + 2 * j) & 3;
            checks.due("M(" + i + ", " + j + ") by bit " + value + " of entry " + entry,
                    Math.floorMod(8192 * bits + program.noise(2, 1, i, j), Q), due);
        }
    }

    /** "for each two bytes the first + 256 * the second, modulo 32768". */
    private void entriesOfAAreCut() {
        // the two bytes' number, z, and where the entry is and what
        int[][] due = {
            {0, 67, 1, 7, 0}, {32767, 4092, 4, 4, 32767}, {32768, 45, 2, 6, 0},
            {65535, 310, 7, 4, 32767}
        };
        LatticeWraps program = new LatticeWraps();
        for (int[] row : due) {
            program.make(3, 0L, 0L, row[1]);
            checks.due("A of " + row[0], program.entry(3, 0, row[2], row[3]), row[4]);
        }
    }

    /** "8192 * the two bits 8 * i + 2 * j and the next one of m", from bit 0 to bit 31. */
    private void everyBitOfAMessageIsCoded() {
        long[] due = {
            6492059281709332805L, -323397582006670879L, -3760932075067763023L,
            -1333022548268695771L, 2339574875412460401L, -4433444450629492410L,
            -2394355970086761051L, 4307513074519884704L, 3872489348083148719L,
            4654520373475093788L, -8413505881337403520L, 4175322431715004416L,
            8252027852628638377L, -8940367236186501908L, 324454011883413342L,
            -7320284567406764809L, -8161653855073022507L, -4658479029184160992L,
            -2312006889286582612L, 7333532743114988731L, 9184679074301666492L,
            8690349383544415874L, -4862428077093320280L, 7937116784654675518L,
            3492557239536358114L, -5234839675749053289L, 7946796803353995392L,
            -6990861634574588156L, 2075564291994214486L, -1497550742759837142L,
            -6417173865072296550L, 8545663164194810712L
        };
        LatticeWraps program = Given.withKey();
        for (int bit = 0; bit < 32; bit++) {
            checks.due("wrap bit " + bit, program.wrap(0, 1, 1 << bit), due[bit]);
            checks.due("read bit " + bit, program.read(0, 1), 1 << bit);
            checks.due("unwrap bit " + bit, program.unwrap(0, 1), due[bit]);
        }
    }

    /** Y = .. + CODE(m), modulo 32768: a code of 16384 makes Y(1, 1) just 0. */
    private void codesAreCountedModulo32768() {
        LatticeWraps program = Given.withKey();
        checks.due("wrap 2625", program.wrap(0, 1, 2625), -7124712560313986250L);
        checks.due("Y of 2625", Given.wrapRow(program, 0).substring(120),
                "1cb32e5df1c5a65bfb20003474b5ad822540338af7c7a5b9c149682b5905");
        checks.due("read 2625", program.read(0, 1), 2625);
    }

    /** The farthest samples, 12 and -12, in S', E' and E'': the noise stays readable. */
    private void farthestSamplesInAWrap() {
        int[] messages = {1687, 803, 4595, 2221, 853, 1008};
        long[] due = {
            815986877814808698L, -5714307830675051832L, -7002558997850276362L,
            2014366047227260330L, -4910521061143500924L, -8059833077875325489L
        };
        LatticeWraps program = Given.withKey();
        for (int k = 0; k < messages.length; k++) {
            checks.due("wrap " + messages[k], program.wrap(3, 1, messages[k]), due[k]);
            checks.due("read " + messages[k], program.read(3, 1), messages[k]);
        }
    }

    /** "(that of M + 4096) / 8192, cut, modulo 4": each entry of M just before and at each edge. */
    private void bitsAreReadFromWhereTheyChangeOver() {
        int[][] due = {
            {0, 0}, {4095, 0}, {4096, 1}, {12287, 1}, {12288, 2}, {20479, 2}, {20480, 3},
            {28671, 3}, {28672, 0}, {32767, 0}
        };
        for (int entry = 0; entry < 16; entry++) {
            LatticeWraps program = Given.withWrap();
            Given.level(program, 2, 0);
            for (int[] row : due) {
                putInY(program, entry, row[0]);
                checks.due("read " + row[0] + " in entry " + entry, program.read(2, 1),
                        row[1] << 2 * entry);
                putInY(program, entry, row[0]);
            }
        }
    }

    /** Changes the wrap in place 2 by the number's bits, in the place of an entry of Y. */
    private static void putInY(LatticeWraps program, int entry, int value) {
        int first = 480 + 15 * entry;
        int bits = value << (9 - first % 8);
        program.change(2, first / 8, bits >> 16);
        program.change(2, first / 8 + 1, bits >> 8);
        if (first / 8 + 2 < 90) {
            program.change(2, first / 8 + 2, bits);
        }
    }

    /** "if that gives the same wrap, the secret is that one's": no bit may differ. */
    private void theSameWrapOnlyIsAccepted() {
        LatticeWraps program = Given.withWrap();
        for (int i = 0; i < 90; i++) {
            int bit = 1 << i % 8;
            program.change(2, i, bit);
            long secret = program.unwrap(2, 1);
            checks.due("bit " + i % 8 + " of byte " + i + " changed: the secret is given away",
                    secret == Given.SECRET ? 1 : 0, 0);
            program.change(2, i, bit);
        }
        checks.due("all changed back", program.unwrap(2, 1), Given.SECRET);
    }

    /** The same: a wrap that was changed to another one that the key has is that one. */
    private void anotherMessagesWrapIsAccepted() {
        LatticeWraps program = Given.withWrap();
        long secret = program.wrap(0, 1, -1);
        for (int i = 0; i < 90; i++) {
            program.change(2, i, program.wrapByte(2, i) ^ program.wrapByte(0, i));
        }
        checks.due("the wrap is another's", program.unwrap(2, 1), secret);
        checks.due("so is what is read", program.read(2, 1), -1);
    }

    /** "otherwise it is SHAKE(wrap, s; 8)": wraps of bytes 0 and 255, with the farthest s. */
    private void otherwiseTheSecretComesFromS() {
        long[] s = {0L, -1L, Long.MIN_VALUE, Long.MAX_VALUE};
        long[][] due = {
            {-8738382105861330408L, -4433360697280835733L},
            {1427241306795636108L, -1276941100770853852L},
            {-1703959651418572171L, 3702451706782749305L},
            {7266098360575335641L, -8563899416420488090L}
        };
        LatticeWraps program = Given.withWrap();
        program.copy(2, 3);
        Given.level(program, 2, 0);
        Given.level(program, 3, 255);
        checks.due("read bytes 0", program.read(2, 1), 0);
        checks.due("read bytes 255", program.read(3, 1), 0);
        for (int k = 0; k < s.length; k++) {
            program.make(1, s[k], Given.E, Given.Z);
            checks.due("unwrap bytes 0, s = " + s[k], program.unwrap(2, 1), due[k][0]);
            checks.due("unwrap bytes 255, s = " + s[k], program.unwrap(3, 1), due[k][1]);
        }
    }

    /** "There are places 0 .. 3 for keys and 0 .. 3 for wraps". */
    private void placesAre0To3() {
        LatticeWraps program = new LatticeWraps();
        for (int place = 0; place < 4; place++) {
            checks.due("make in " + place, program.make(place, Given.S, Given.E, Given.Z),
                    Given.MARK);
            checks.due("wrap in " + place, program.wrap(place, place, place - 2),
                    Given.withKey().wrap(0, 1, place - 2));
        }
        for (int place = 0; place < 4; place++) {
            checks.due("read " + place, program.read(place, 3 - place), place - 2);
        }
        for (int place : Given.NO_PLACES) {
            checks.refused("make in " + place, IllegalArgumentException.class,
                    () -> program.make(place, 1L, 2L, 3L));
            checks.refused("wrap in " + place, IllegalArgumentException.class,
                    () -> program.wrap(place, 0, 1));
        }
    }
}
