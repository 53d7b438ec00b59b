/** No call throws or fails to end, for any arguments in any state; the seed's runs are the same each time. */
public final class AnyArgumentsTest {
    private static final Checks CHECKS = new Checks("AnyArgumentsTest");
    private static final int[] ODD = {Integer.MIN_VALUE, Integer.MIN_VALUE + 1, -65536, -64, -7, -2, -1, 0, 1, 2, 3, 4, 5,
        7, 8, 9, 10, 11, 19, 20, 21, 31, 32, 33, 39, 40, 41, 50, 51, 63, 64, 65, 127, 128, 199, 200, 201, 255, 256, 399,
        400, 401, 999, 1000, 1001, 1999, 2000, 2001, 65536, Integer.MAX_VALUE - 1, Integer.MAX_VALUE};

    public static void main(String[] args) {
        int seen = 0;
        for (int services : new int[] {0, 1, 2, 3, 40}) {
            for (int stage = 0; stage < 4; stage++) {
                seen += everyCall(machine(services, stage));
            }
        }
        CHECKS.that("calls were made", seen > 0);
        CHECKS.end();
    }

    /** An object with so many services: only made, with relations, with JOBS, with a PLAN and failures. */
    private static ServiceTree machine(int services, int stage) {
        ServiceTree x = new ServiceTree();
        for (int s = 0; s < services; s++) {
            x.make(s % 3 == 2 ? 2 : s % 2, s % 4, s % 3);
            x.life(s, 0, 2 + s % 5);
            x.again(s, 1 + s % 4, s % 3, 20);
        }
        for (int s = 1; stage > 0 && s < services; s++) {
            x.relation(s % 4, s, s / 2);
        }
        if (stage > 1) {
            x.order(0, services - 1);
        }
        if (stage > 2) {
            x.tick(20);
            x.plan(2, services - 1);
        }
        return x;
    }

    private static int everyCall(ServiceTree x) {
        int seen = 0;
        for (int a : ODD) {
            seen += one(x, a);
            for (int b : ODD) {
                seen += two(x, a, b);
            }
        }
        for (int i = 0; i < ODD.length * ODD.length; i++) {
            int a = ODD[i % ODD.length];
            int b = ODD[i / ODD.length];
            for (int c = i % 5; c < ODD.length; c += 5) {
                seen += three(x, a, b, ODD[c]);
            }
        }
        CHECKS.due("check()", x.check(), 0);
        CHECKS.that("quick()", x.quick() >= -1);
        CHECKS.that("ring()", x.ring() >= 0);
        CHECKS.that("changes()", x.changes() >= 0);
        return seen;
    }

    private static int one(ServiceTree x, int a) {
        int least = Math.min(x.in(a), Math.min(x.count(a), Math.min(x.letter(a), x.tick(a))));
        CHECKS.that("no answer is below FULL", least >= -6);
        return 1;
    }

    private static int two(ServiceTree x, int a, int b) {
        int least = Math.min(x.about(a, b), Math.min(x.waits(a, b), Math.min(x.planned(a, b), x.change(a, b))));
        least = Math.min(least, Math.min(x.plan(a, b), x.order(a, b)));
        CHECKS.that("no answer is below FULL", least >= -6);
        return 1;
    }

    private static int three(ServiceTree x, int a, int b, int c) {
        int least = Math.min(x.related(a, b, c), Math.min(x.relation(a, b, c), x.undo(a, b, c)));
        least = Math.min(least, Math.min(x.life(a, b, c), x.again(a, b, c, a)));
        if (x.count(0) < 3) {
            least = Math.min(least, x.make(a, b, c));
        }
        CHECKS.that("no answer is below FULL", least >= -6);
        return 1;
    }
}
