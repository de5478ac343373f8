import java.lang.management.ManagementFactory;

/** What the dearest runs of 512 calls take of the room: with rows made once, next to nothing but the exceptions. */
public final class RoomTest {
    private static final com.sun.management.ThreadMXBean THREADS =
            (com.sun.management.ThreadMXBean) ManagementFactory.getThreadMXBean();

    private static long taken() {
        return THREADS.getThreadAllocatedBytes(Thread.currentThread().getId());
    }

    public static void main(String[] args) {
        dear();
        long start = taken();
        BeanLoom loom = dear();
        long made = taken() - start;
        start = taken();
        for (int call = 0; call < 60; call++) {
            try {
                loom.map(0, 0);
            } catch (UnsupportedOperationException e) {
                continue;
            }
        }
        long mapped = taken() - start;
        BeanLoom faulty = new BeanLoom();
        faulty.bean();
        for (int i = 0; i < 16; i++) {
            faulty.method(15, 15);
            faulty.rule(i, 8, 0, 0);
        }
        faulty.rule(15, 7, 0, 99);
        start = taken();
        for (int call = 0; call < 350; call++) {
            try {
                faulty.build();
            } catch (IllegalArgumentException e) {
                continue;
            }
        }
        long built = taken() - start;
        System.out.println("bytes for one object and its calls " + made + ", for 60 maps " + mapped
                + ", for 350 builds " + built);
        // An exception with its trace takes some hundred bytes; the room's 7.3 million elements are some 58 million.
        if (made > 2_000_000 || mapped > 200_000 || built > 1_000_000) {
            System.out.println("that is too much");
            System.exit(1);
        }
    }

    /** A graph that would make more than 400 objects. */
    private static BeanLoom dear() {
        BeanLoom loom = new BeanLoom();
        int from = loom.bean();
        int to = loom.bean();
        int froms = loom.list(from);
        int tos = loom.list(to);
        for (int name = 0; name < 7; name++) {
            loom.property(from, name, 3);
            loom.property(to, name, 14);
        }
        loom.property(from, 7, froms);
        loom.property(to, 7, tos);
        loom.method(from, to);
        loom.build();
        for (int i = 0; i < 60; i++) {
            loom.make(from, 0);
        }
        for (int i = 0; i < 60; i++) {
            int list = loom.make(froms, 0);
            loom.put(i, 7, list);
            for (int j = 1; j <= 4; j++) {
                loom.put(list, 0, (i * 3 + j) % 60);
            }
        }
        return loom;
    }
}
