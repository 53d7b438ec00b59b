/** Promises 19 to 21: changes, change, check. */
public final class HistoryTest {
    private static final Checks CHECKS = new Checks("HistoryTest");

    public static void main(String[] args) {
        ordinary();
        wrongNumbers();
        latestTwoThousand();
        checkIsZero();
        CHECKS.end();
    }

    private static void due(String call, int got, int want) {
        CHECKS.due(call, got, want);
    }

    private static void ordinary() {
        ServiceTree x = new ServiceTree();
        x.make(0, 1, 1);
        x.make(0, 0, 0);
        x.tick(4);
        due("changes()", x.changes(), 0);
        x.order(0, 0);
        due("changes()", x.changes(), 1);
        x.tick(1);
        x.order(0, 1);
        x.order(1, 0);
        x.order(0, 1);
        x.tick(3);
        int[][] want = {{4, 0, 1}, {5, 0, 2}, {5, 1, 2}, {5, 0, 3}, {6, 0, 0}};
        due("changes()", x.changes(), want.length);
        for (int i = 0; i < want.length; i++) {
            for (int what = 0; what < 3; what++) {
                due("change(" + i + ", " + what + ")", x.change(i, what), want[i][what]);
            }
        }
    }

    private static void wrongNumbers() {
        ServiceTree x = new ServiceTree();
        x.make(0, 0, 0);
        x.order(0, 0);
        due("change(0, 0)", x.change(0, 0), 0);
        due("change(0, -1)", x.change(0, -1), -1);
        due("change(0, 3)", x.change(0, 3), -1);
        due("change(1, 0)", x.change(1, 0), -1);
        due("change(-1, 0)", x.change(-1, 0), -1);
        due("change(min, 0)", x.change(Integer.MIN_VALUE, 0), -1);
        due("change(max, 0)", x.change(Integer.MAX_VALUE, 0), -1);
        due("change(0, max)", x.change(0, Integer.MAX_VALUE), -1);
    }

    private static void latestTwoThousand() {
        // One service fails and wakes at every tick in turn: change i is at tick i.
        ServiceTree x = new ServiceTree();
        x.make(0, 0, 0);
        for (int i = 0; i < 8; i++) {
            x.life(0, i, 1);
        }
        x.again(0, 1, 10, 1);
        x.order(0, 0);
        x.tick(1000);
        x.tick(999);
        due("changes()", x.changes(), 2000);
        due("change(0, 0)", x.change(0, 0), 0);
        x.tick(1);
        due("change(0, 0)", x.change(0, 0), -1);
        due("change(0, 3)", x.change(0, 3), -1);
        due("change(1, 0)", x.change(1, 0), 1);
        due("change(1, 2)", x.change(1, 2), 5);
        due("change(2000, 0)", x.change(2000, 0), 2000);
        due("change(2000, 2)", x.change(2000, 2), 2);
        due("change(2001, 0)", x.change(2001, 0), -1);
        for (int i = 0; i < 400; i++) {
            x.tick(1000);
        }
        due("changes()", x.changes(), 402001);
        due("change(400000, 0)", x.change(400000, 0), -1);
        for (int i = 400001; i < 402001; i++) {
            due("change(" + i + ", 0)", x.change(i, 0), i);
            due("change(" + i + ", 1)", x.change(i, 1), 0);
            due("change(" + i + ", 2)", x.change(i, 2), i % 2 == 0 ? 2 : 5);
        }
    }

    private static void checkIsZero() {
        ServiceTree x = new ServiceTree();
        for (int s = 0; s < 6; s++) {
            x.make(0, s % 3, 2 - s % 3);
            x.life(s, 0, 3 + s);
            x.life(s, 1, 9 - s);
            x.again(s, 1 + s % 2, 3, 30);
        }
        x.relation(0, 1, 0);
        x.relation(0, 2, 1);
        x.relation(0, 4, 3);
        x.relation(3, 4, 2);
        x.relation(3, 5, 0);
        int[] orders = {2, 4, 5, 1, 3, 2, 4};
        for (int i = 0; i < 60; i++) {
            x.order(i % 5 == 4 ? 2 : 0, orders[i % 7]);
            due("check()", x.check(), 0);
            x.tick(1);
            due("check()", x.check(), 0);
            holds(x);
        }
    }

    /** The two rules asked from outside, as check() would be 0, too, if it looked at nothing. */
    private static void holds(ServiceTree x) {
        for (int a = 0; a < 6; a++) {
            for (int b = 0; b < 6; b++) {
                int stateA = x.about(a, 0);
                int stateB = x.about(b, 0);
                boolean lacks = x.related(0, a, b) == 1 && (stateA == 1 || stateA == 2) && stateB != 2;
                boolean beside = x.related(3, a, b) == 1 && stateA >= 1 && stateA <= 3 && stateB >= 1 && stateB <= 3;
                CHECKS.that(a + " does not run without " + b, !lacks);
                CHECKS.that(a + " does not run beside " + b, !beside);
            }
        }
    }
}
