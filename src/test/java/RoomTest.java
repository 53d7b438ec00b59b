import java.lang.management.ManagementFactory;

/** How much the dearest objects and calls make: all calls of one run live in one room. */
public final class RoomTest {
    private static final Checks CHECKS = new Checks("RoomTest");

    public static void main(String[] args) {
        java.lang.management.ThreadMXBean bean = ManagementFactory.getThreadMXBean();
        if (!(bean instanceof com.sun.management.ThreadMXBean) ) {
            System.out.println("RoomTest: this machine does not count");
            return;
        }
        com.sun.management.ThreadMXBean counter = (com.sun.management.ThreadMXBean) bean;
        fullRun();
        long before = counter.getCurrentThreadAllocatedBytes();
        ServiceTree x = made();
        long afterMaking = counter.getCurrentThreadAllocatedBytes();
        use(x);
        long afterUse = counter.getCurrentThreadAllocatedBytes();
        CHECKS.that("an object with all its services takes " + (afterMaking - before) + " bytes, at most 50000",
            afterMaking - before <= 50000);
        CHECKS.that("its other calls make " + (afterUse - afterMaking) + " bytes, at most 2000",
            afterUse - afterMaking <= 2000);
        CHECKS.end();
    }

    private static void fullRun() {
        use(made());
    }

    private static ServiceTree made() {
        ServiceTree x = new ServiceTree();
        for (int s = 0; s < 40; s++) {
            x.make(2, s % 3, s % 2);
        }
        return x;
    }

    private static void use(ServiceTree x) {
        for (int s = 1; s < 40; s++) {
            x.relation(0, s, s / 2);
            x.relation(1, s / 2, s);
            x.life(s, s % 8, s);
            x.again(s, 1 + s % 5, s % 10, 1 + s);
        }
        for (int i = 0; i < 40; i++) {
            x.plan(i % 3, i);
            x.order(i % 3, i);
            x.letter(i);
            x.tick(200);
            x.planned(i, i % 4);
            x.change(i, i % 3);
            x.waits(i, i % 2);
            x.check();
        }
    }
}
