import java.lang.management.ManagementFactory;

/** All calls of a run live in one room: only the constructor may make objects, and few. */
public final class RoomTest {
    private static final com.sun.management.ThreadMXBean THREADS =
        (com.sun.management.ThreadMXBean) ManagementFactory.getThreadMXBean();

    private static long sum = 0;

    public static void main(String[] args) {
        long id = Thread.currentThread().getId();
        use(new PortBench());
        long before = THREADS.getThreadAllocatedBytes(id);
        PortBench x = new PortBench();
        long made = THREADS.getThreadAllocatedBytes(id);
        use(x);
        long used = THREADS.getThreadAllocatedBytes(id);
        System.out.println("bytes of a new object: " + (made - before) + ", of its calls: " + (used - made));
        if (made - before > 10_000 || used - made > 1_000 || sum == 0) {
            System.exit(1);
        }
    }

    private static void use(PortBench x) {
        for (int b = 0; b < 3; b++) {
            sum += x.box();
            sum += x.sets(b, 0, 3 + b, 4);
        }
        for (int i = 0; i < 15; i++) {
            sum += x.learns() + x.reads(0) + x.drops(3) + x.chains(0, 1) + x.peels(3, 0, 1);
            sum += x.drops(3) + x.drops(3) + x.turns(2) + x.drops(3) + x.told(0, 1) + x.form(0, 3, 1);
            sum += x.det(0) + x.ends(0, 1, 2, 3) + x.test(0, 3) + x.like(2) + x.errs(4, i + 2, 1) + x.back();
            sum += x.digest() + x.of(9, 9) + x.count(5);
        }
        for (int i = 0; i < 60; i++) {
            sum += x.type('l') + x.type(';');
        }
        for (int i = 0; i < 50; i++) {
            sum += x.does();
        }
        sum += x.clear();
    }
}
