import com.sun.management.ThreadMXBean;
import java.lang.management.ManagementFactory;

/**
 * All calls of a run live in one room: a call that does not throw makes no object, and a new object
 * takes few bytes. Counted in bytes, of which Java's smallest object takes 16.
 */
public final class RoomTest {
    private static final int CALLS = 400;
    private static final long SMALLEST_OBJECT = 16L;
    private static final long BYTES_OF_A_NEW_OBJECT = 12_000L;

    private final Checks checks = new Checks();
    private final ThreadMXBean thread = (ThreadMXBean) ManagementFactory.getThreadMXBean();

    public static void main(String[] args) {
        RoomTest test = new RoomTest();
        test.callsMakeNoObject();
        test.newObjectsAreSmall();
        test.checks.end("RoomTest");
    }

    private void callsMakeNoObject() {
        String[] names = {
            "make", "wrap", "unwrap", "change", "copy", "forget", "wrapByte", "publicByte", "entry",
            "noise", "read", "shake", "unwrap of a changed wrap"
        };
        for (int kind = 0; kind < names.length; kind++) {
            run(kind);
            long bytes = run(kind);
            checks.due(names[kind] + " makes objects, " + bytes + " bytes in " + CALLS + " calls",
                    bytes < CALLS * SMALLEST_OBJECT ? 0 : 1, 0);
        }
    }

    /** The bytes that were made by calls of one kind on an object of their own. */
    private long run(int kind) {
        LatticeWraps program = Given.withWrap();
        if (kind == 12) {
            program.change(2, 0, 1);
        }
        long before = thread.getCurrentThreadAllocatedBytes();
        for (int k = 0; k < CALLS; k++) {
            call(program, kind, k);
        }
        return thread.getCurrentThreadAllocatedBytes() - before;
    }

    private static void call(LatticeWraps program, int kind, int k) {
        switch (kind) {
            case 0 -> program.make(k % 4, k, k, k);
            case 1 -> program.wrap(k % 4, 1, k);
            case 3 -> program.change(2, k % 90, k);
            case 4 -> program.copy(2, k % 4);
            case 5 -> program.forget(k % 2 == 0, k % 4);
            case 6 -> program.wrapByte(2, k % 90);
            case 7 -> program.publicByte(1, k % 68);
            case 8 -> program.entry(1, k % 4, k % 8, k % 4);
            case 9 -> program.noise(2, 1, k / 4 % 4, k % 4);
            case 10 -> program.read(2, 1);
            case 11 -> program.shake(k % 9, k);
            default -> program.unwrap(2, 1);
        }
    }

    private void newObjectsAreSmall() {
        LatticeWraps[] kept = new LatticeWraps[100];
        long before = thread.getCurrentThreadAllocatedBytes();
        for (int k = 0; k < kept.length; k++) {
            kept[k] = new LatticeWraps();
        }
        long each = (thread.getCurrentThreadAllocatedBytes() - before) / kept.length;
        checks.due("a new object takes " + each + " bytes, which is too much",
                each <= BYTES_OF_A_NEW_OBJECT ? 0 : 1, 0);
    }
}
