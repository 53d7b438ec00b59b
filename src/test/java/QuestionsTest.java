/** Promises 10 to 12: about, in, count. */
public final class QuestionsTest {
    private static final Checks CHECKS = new Checks("QuestionsTest");

    public static void main(String[] args) {
        wrongNumbers();
        allStates();
        aboutOne();
        counts();
        CHECKS.end();
    }

    private static void due(String call, int got, int want) {
        CHECKS.due(call, got, want);
    }

    private static void wrongNumbers() {
        ServiceTree x = new ServiceTree();
        x.make(0, 0, 0);
        int[] wrong = {-1, Integer.MIN_VALUE, Integer.MAX_VALUE, 40, 64};
        for (int w : wrong) {
            due("about(0, w)", x.about(0, w), -1);
            due("about(w, 0)", x.about(w, 0), -1);
            due("in(w)", x.in(w), -1);
            due("count(w)", x.count(w), -1);
        }
        due("about(1, 0)", x.about(1, 0), -1);
        due("about(0, 10)", x.about(0, 10), -1);
        due("in(6)", x.in(6), -1);
        due("count(6)", x.count(6), -1);
    }

    private static void allStates() {
        // 0 DOWN, 1 STARTING, 2 UP, 3 STOPPING, 4 FAILED, 5 WAITING: 1 starts and 3 stops by one order.
        ServiceTree x = new ServiceTree();
        for (int s = 0; s < 6; s++) {
            x.make(0, s == 1 ? 9 : 0, 9);
        }
        x.relation(3, 0, 3);
        x.relation(1, 1, 0);
        x.life(4, 0, 1);
        x.life(5, 0, 1);
        x.again(5, 50, 1, 1);
        for (int s = 2; s < 6; s++) {
            x.order(0, s);
        }
        x.tick(1);
        due("order(0, 1)", x.order(0, 1), 3);
        for (int state = 0; state < 6; state++) {
            due("about(" + state + ", 0)", x.about(state, 0), state);
            due("in(" + state + ")", x.in(state), 1);
        }
        x.tick(9);
        int[] then = {1, 0, 3, 0, 1, 1};
        for (int state = 0; state < 6; state++) {
            due("then in(" + state + ")", x.in(state), then[state]);
        }
    }

    private static void aboutOne() {
        ServiceTree x = new ServiceTree();
        x.tick(5);
        x.make(2, 3, 2);
        int[] made = {0, 5, 0, 0, 0, 0, 0, 0, -1, 2};
        all("made", x, made);
        x.life(0, 0, 2);
        x.again(0, 4, 1, 100);
        x.letter(0);
        x.letter(0);
        x.letter(0);
        all("a LETTER came", x, new int[] {1, 5, 0, 0, 0, 1, 3, 0, -1, 2});
        x.tick(3);
        all("UP", x, new int[] {2, 8, 1, 0, 0, 0, 2, 1, 0, 2});
        x.tick(2);
        all("WAITING", x, new int[] {5, 10, 1, 1, 0, 0, 1, 2, 1, 2});
        x.tick(4);
        all("STARTING again", x, new int[] {1, 14, 1, 1, 0, 0, 1, 2, 1, 2});
        x.tick(3);
        all("UP again", x, new int[] {2, 17, 2, 1, 0, 0, 0, 3, 2, 2});
        x.order(1, 0);
        all("STOPPING", x, new int[] {3, 17, 2, 1, 0, 2, 0, 3, 2, 2});
        x.tick(2);
        all("DOWN", x, new int[] {0, 19, 2, 1, 0, 0, 0, 3, 2, 2});
        x.life(0, 2, 1);
        x.order(0, 0);
        x.tick(4);
        all("FAILED", x, new int[] {4, 23, 3, 2, 0, 0, 0, 3, 2, 2});
    }

    private static void all(String when, ServiceTree x, int[] want) {
        for (int what = 0; what < want.length; what++) {
            due(when + ": about(0, " + what + ")", x.about(0, what), want[what]);
        }
    }

    private static void counts() {
        ServiceTree x = new ServiceTree();
        x.make(2, 1, 0);
        x.make(0, 1, 0);
        x.make(0, 1, 0);
        x.relation(0, 0, 1);
        x.relation(3, 0, 2);
        x.relation(1, 1, 2);
        int[] first = {3, 3, 0, 0, 0, 0};
        counted("told", x, first);
        x.letter(0);
        counted("a LETTER came: 2 is wanted, but AGAINST", x, new int[] {3, 3, 2, 0, 1, 0});
        x.tick(1);
        counted("1 is UP", x, new int[] {3, 3, 1, 1, 1, 0});
        x.tick(1);
        counted("0 is UP", x, new int[] {3, 3, 0, 2, 1, 1});
        x.undo(3, 2, 0);
        x.make(3, 0, 0);
        counted("undone", x, new int[] {4, 2, 0, 2, 1, 1});
    }

    private static void counted(String when, ServiceTree x, int[] want) {
        for (int what = 0; what < want.length; what++) {
            due(when + ": count(" + what + ")", x.count(what), want[what]);
        }
    }
}
