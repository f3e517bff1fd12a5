import com.sun.management.ThreadMXBean;
import java.lang.management.ManagementFactory;
import java.util.function.Supplier;

/** No call makes objects, as all calls of a run share one room. */
public final class RoomTest {
    private static final int CALLS = 512;
    /** Room for the answers, which the test itself wraps as objects. */
    private static final long FEW_BYTES = 16384;

    private final Check check = new Check("RoomTest");
    private final ThreadMXBean threads = (ThreadMXBean) ManagementFactory.getThreadMXBean();
    private final Eightways x = new Eightways();

    public static void main(String[] args) {
        RoomTest test = new RoomTest();
        test.run();
        test.check.end();
    }

    private void run() {
        for (int slot = 0; slot < 8; slot++) {
            x.put(slot, slot % 2 == 0 ? 123456 + slot : -slot, slot % 3);
        }
        dueFew("isSound()", () -> x.isSound());
        dueFew("checksum()", () -> x.checksum());
        dueFew("tell()", () -> x.tell(0));
        dueFew("quotient()", () -> x.quotient(0, 1, 2, 'e', 2));
        dueFew("remainder()", () -> x.remainder(0, 1, 2));
        dueFew("undo()", () -> {
            x.put(3, 5, 1);
            return x.undo();
        });
    }

    private void dueFew(String what, Supplier<?> call) {
        bytesOf(call); // the first time the machine itself makes objects, for classes that it loads
        check.due(what + " makes few objects", bytesOf(call) < FEW_BYTES, true);
    }

    private long bytesOf(Supplier<?> call) {
        long self = Thread.currentThread().getId();
        long before = threads.getThreadAllocatedBytes(self);
        for (int count = 0; count < CALLS; count++) {
            call.get();
        }
        return threads.getThreadAllocatedBytes(self) - before;
    }
}
