import java.lang.management.ManagementFactory;

/** All calls of a run share one room: a call makes nothing new, and an object is small. */
public final class RoomTest {
    private static final Checks c = new Checks("RoomTest");

    public static void main(String[] args) {
        com.sun.management.ThreadMXBean threads = (com.sun.management.ThreadMXBean) ManagementFactory.getThreadMXBean();
        long id = Thread.currentThread().getId();
        // The first rounds also load classes, which is not the program's own making.
        for (int round = 0; round < 3; round++) {
            call(Scenes.loaded());
            threads.getThreadAllocatedBytes(id);
        }
        long start = threads.getThreadAllocatedBytes(id);
        SealedStores x = Scenes.loaded();
        long made = threads.getThreadAllocatedBytes(id);
        call(x);
        long called = threads.getThreadAllocatedBytes(id);
        c.holds(made - start < 100000, "an object takes " + (made - start) + " bytes");
        c.holds(called - made < 20000, "450 calls take " + (called - made) + " bytes");
        c.end();
    }

    private static void call(SealedStores x) {
        Scenes.type(x, "d1;z1;z0;b0,0,1,0;u0,0,1;z1;z2;c0;d1;r0,0,1;");
        for (int i = 0; i < 80; i++) {
            x.play();
            x.fault(0);
            x.undo();
            x.pass(60);
            x.toPay();
        }
    }
}
