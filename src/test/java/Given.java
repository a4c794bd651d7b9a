/**
 * What most tests begin with: a key made of 11, -22 and 33 in place 1, a wrap of M for it in place
 * 2, and the answers that are due for them. These come, like all answers written out in the tests,
 * from a reckoning of its own with the SHAKE128 of another library.
 */
final class Given {
    static final int[] NO_PLACES = {-1, 4, Integer.MIN_VALUE, Integer.MAX_VALUE};

    static final long S = 11L;
    static final long E = -22L;
    static final long Z = 33L;
    static final long MARK = -808506429973808010L;
    static final String PUBLIC_ROW =
            "ada380b86935e7912aac98c283ff0b88c1da3188119dbc6e78baa20a54d84759ae0c"
            + "a718f04a3bb6dfbc654fb2d536de8c01b787310f36cc9f17f0e388fd30c0994fdecb";
    static final int M = 0x12345678;
    static final long SECRET = -392772433412535973L;
    static final String WRAP_ROW =
            "a4adb78a4d3bf8e67d2fa9d6d4131c3a11143000c980775adee208782177"
            + "4c4f439ba247a61297f3b534f6c0f59e294c29ada2e61bb7a545991f932b"
            + "ba17db3fe25df396122b216c3ef3f4506a4c1611c32bc6e60ebfe23ad8f3";

    private Given() {}

    static LatticeWraps withKey() {
        LatticeWraps program = new LatticeWraps();
        program.make(1, S, E, Z);
        return program;
    }

    static LatticeWraps withWrap() {
        LatticeWraps program = withKey();
        program.wrap(2, 1, M);
        return program;
    }

    /** Changes the wrap so that all its bytes are the same one, in 180 calls. */
    static void level(LatticeWraps program, int wrap, int value) {
        for (int i = 0; i < 90; i++) {
            program.change(wrap, i, program.wrapByte(wrap, i) ^ value);
        }
    }

    /** For calls that answer nothing, where an answer is wanted. */
    static long copied(LatticeWraps program, int from, int to) {
        program.copy(from, to);
        return 0;
    }

    static long forgotten(LatticeWraps program, boolean key, int place) {
        return program.forget(key, place) ? 1 : 0;
    }

    static String wrapRow(LatticeWraps program, int wrap) {
        StringBuilder row = new StringBuilder();
        for (int i = 0; i < 90; i++) {
            row.append(String.format("%02x", program.wrapByte(wrap, i)));
        }
        return row.toString();
    }

    static String publicRow(LatticeWraps program, int key) {
        StringBuilder row = new StringBuilder();
        for (int i = 0; i < 68; i++) {
            row.append(String.format("%02x", program.publicByte(key, i)));
        }
        return row.toString();
    }
}
