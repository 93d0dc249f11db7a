import java.lang.management.ManagementFactory;

/** A bench's dearest calls, 512 of them, need next to no room: all work rows are made once. */
public final class RoomTest {
    private static final long MOST_BYTES = 400_000;

    public static void main(String[] args) {
        com.sun.management.ThreadMXBean threads =
            (com.sun.management.ThreadMXBean) ManagementFactory.getThreadMXBean();
        run();
        long before = threads.getCurrentThreadAllocatedBytes();
        run();
        long bytes = threads.getCurrentThreadAllocatedBytes() - before;
        System.out.println("512 calls took " + bytes + " bytes");
        if (bytes > MOST_BYTES) {
            System.exit(1);
        }
    }

    private static void run() {
        Diffractory x = new Diffractory();
        for (int source = 0; source < 3; source++) {
            x.source(source, source, 9);
        }
        for (int part = 0; part < 8; part++) {
            x.part(part % 2 == 0 ? 2 : 4, part % 2 == 0 ? 0 : 5);
        }
        long first = x.digest();
        for (int call = 12; call < 512; call++) {
            if (x.digest() != first) {
                System.out.println("the digest changed by itself");
                System.exit(1);
            }
        }
    }
}
