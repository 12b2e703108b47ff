import java.lang.management.ManagementFactory;

/**
 * The room: all is made with the object, so that any number of calls makes nothing more, and an
 * object is small.
 */
public final class RoomTest {
    private static final int CALLS = 512;
    // The machine itself may make a little while the calls go on; an array for each call would be
    // some ten times as much.
    private static final long SPARE_BYTES = 16384;
    private static final long OBJECT_BYTES = 8192;
    private static final com.sun.management.ThreadMXBean MACHINE =
        (com.sun.management.ThreadMXBean) ManagementFactory.getThreadMXBean();

    private RoomTest() {
    }

    public static void main(String[] args) {
        allCalls(dearest());
        NearRanks x = dearest();
        long before = MACHINE.getCurrentThreadAllocatedBytes();
        allCalls(x);
        long calls = MACHINE.getCurrentThreadAllocatedBytes() - before;
        Kit.due("bytes within what is spare: " + calls, calls <= SPARE_BYTES ? 1 : 0, 1);
        before = MACHINE.getCurrentThreadAllocatedBytes();
        new NearRanks();
        long object = MACHINE.getCurrentThreadAllocatedBytes() - before;
        Kit.due("bytes of an object: " + object, object <= OBJECT_BYTES ? 1 : 0, 1);
        Kit.end();
    }

    private static NearRanks dearest() {
        NearRanks x = new NearRanks();
        for (int value = 31; value >= 0; value--) {
            x.append(value);
        }
        for (int i = 0; i < 150; i++) {
            x.type("mend;".charAt(i % 5));
        }
        return x;
    }

    private static void allCalls(NearRanks x) {
        for (int i = 0; i < CALLS; i++) {
            x.stepsFor(0);
            x.removeAt(0);
            x.bestPlace(i);
            x.insert(0, i);
            x.setValue(3, i);
            x.swap(5);
            x.setBound(i % 32);
            x.setOrder(i % 2 == 0);
            x.setSelf(i % 3 == 0);
            x.step();
            x.runCommands();
            x.search(i);
            x.found(i, 1);
            x.rankOf(i);
            x.ranked(7);
            x.removeAt(31);
            x.append(i);
            x.digest();
            x.undo();
            x.undo();
        }
    }
}
