import com.sun.management.ThreadMXBean;
import java.lang.management.ManagementFactory;
import java.util.function.ToLongFunction;

/** No call makes objects, as all calls of a run share one room. */
public final class RoomTest {
    private static final int OBJECTS = 32;
    private static final int CALLS = 100;
    /** Room for what the machine itself makes now and then; an object a call would be far more. */
    private static final long FEW_BYTES = 4096;

    private final Check check = new Check("RoomTest");
    private final ThreadMXBean threads = (ThreadMXBean) ManagementFactory.getThreadMXBean();

    public static void main(String[] args) {
        RoomTest test = new RoomTest();
        test.run();
        test.check.end();
    }

    private void run() {
        dueFew("isSound()", x -> x.isSound() ? 1 : 0);
        dueFew("checksum()", x -> x.checksum());
        dueFew("tell()", x -> x.tell(0));
        dueFew("quotient()", x -> x.quotient(0, 1, 2, 'e', 2));
        dueFew("remainder()", x -> x.remainder(0, 1, 2));
        dueFew("undo()", x -> {
            x.put(3, 5, 1);
            return x.undo();
        });
    }

    private static Eightways[] filled() {
        Eightways[] all = new Eightways[OBJECTS];
        for (int place = 0; place < OBJECTS; place++) {
            all[place] = new Eightways();
            for (int slot = 0; slot < 8; slot++) {
                all[place].put(slot, slot % 2 == 0 ? 123456 + slot : -slot, slot % 3);
            }
        }
        return all;
    }

    private void dueFew(String what, ToLongFunction<Eightways> call) {
        bytesOf(call); // the first time the machine itself makes objects, for classes that it loads
        check.due(what + " makes few objects", bytesOf(call) < FEW_BYTES, true);
    }

    private long bytesOf(ToLongFunction<Eightways> call) {
        Eightways[] all = filled();
        long self = Thread.currentThread().getId();
        long before = threads.getThreadAllocatedBytes(self);
        for (Eightways x : all) {
            for (int count = 0; count < CALLS; count++) {
                call.applyAsLong(x);
            }
        }
        return threads.getThreadAllocatedBytes(self) - before;
    }
}
