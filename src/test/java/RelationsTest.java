/** Promises 5, 6 and 13: relation, undo, related. */
public final class RelationsTest {
    private static final Checks CHECKS = new Checks("RelationsTest");

    public static void main(String[] args) {
        toldAndUndone();
        undoneIsGone();
        againstIsOfBoth();
        wrongNumbers();
        relatedToItself();
        busy();
        clash();
        full();
        CHECKS.end();
    }

    private static void due(String call, int got, int want) {
        CHECKS.due(call, got, want);
    }

    private static ServiceTree withServices(int n) {
        ServiceTree x = new ServiceTree();
        for (int i = 0; i < n; i++) {
            x.make(0, 2, 2);
        }
        return x;
    }

    private static void toldAndUndone() {
        for (int how = 0; how < 3; how++) {
            ServiceTree x = withServices(3);
            due("undo before", x.undo(how, 0, 1), 0);
            due("relation", x.relation(how, 0, 1), 1);
            due("relation again", x.relation(how, 0, 1), 0);
            due("count(1)", x.count(1), 1);
            due("related", x.related(how, 0, 1), 1);
            due("related the other way", x.related(how, 1, 0), 0);
            due("related otherwise", x.related((how + 1) % 3, 0, 1), 0);
            due("relation the other way", x.relation(how, 1, 0), 1);
            due("count(1)", x.count(1), 2);
            due("undo", x.undo(how, 0, 1), 1);
            due("undo again", x.undo(how, 0, 1), 0);
            due("related after undo", x.related(how, 0, 1), 0);
            due("the other way stays", x.related(how, 1, 0), 1);
            due("count(1)", x.count(1), 1);
        }
    }

    private static void undoneIsGone() {
        ServiceTree x = withServices(4);
        x.relation(0, 1, 0);
        x.relation(0, 2, 0);
        x.relation(0, 1, 3);
        x.relation(0, 3, 1);
        due("undo(0, 3, 1)", x.undo(0, 3, 1), 1);
        due("undo(0, 1, 0)", x.undo(0, 1, 0), 1);
        due("2 NEEDS 0 still", x.related(0, 2, 0), 1);
        due("1 NEEDS 3 still", x.related(0, 1, 3), 1);
        due("START 1 starts 3, not 0", x.order(0, 1), 2);
        x.tick(4);
        due("START 2 starts 0", x.order(0, 2), 2);
        x.tick(4);
        due("STOP 0 stops 2, not 1", x.order(1, 0), 2);
        x.tick(4);
        due("STOP 3 stops 1", x.order(1, 3), 2);
    }

    private static void againstIsOfBoth() {
        ServiceTree x = withServices(2);
        due("relation(3, 0, 1)", x.relation(3, 0, 1), 1);
        due("relation(3, 1, 0)", x.relation(3, 1, 0), 0);
        due("count(1)", x.count(1), 1);
        due("related(3, 0, 1)", x.related(3, 0, 1), 1);
        due("related(3, 1, 0)", x.related(3, 1, 0), 1);
        due("undo(3, 1, 0)", x.undo(3, 1, 0), 1);
        due("related(3, 0, 1)", x.related(3, 0, 1), 0);
        due("undo(3, 0, 1)", x.undo(3, 0, 1), 0);
        due("count(1)", x.count(1), 0);
    }

    private static void wrongNumbers() {
        ServiceTree x = withServices(2);
        int[][] wrong = {{-1, 0, 1}, {4, 0, 1}, {0, -1, 1}, {0, 2, 1}, {0, 0, -1}, {0, 0, 2},
            {Integer.MIN_VALUE, 0, 1}, {0, Integer.MAX_VALUE, 1}, {0, 1, Integer.MIN_VALUE}};
        for (int[] w : wrong) {
            due("relation", x.relation(w[0], w[1], w[2]), -1);
            due("undo", x.undo(w[0], w[1], w[2]), -1);
            due("related", x.related(w[0], w[1], w[2]), -1);
        }
        for (int how = 0; how < 4; how++) {
            due("relation of one to itself", x.relation(how, 1, 1), -1);
            due("undo of one to itself", x.undo(how, 1, 1), -1);
        }
        due("count(1)", x.count(1), 0);
    }

    private static void relatedToItself() {
        due("related without services", new ServiceTree().related(0, 0, 0), -1);
        ServiceTree x = withServices(40);
        for (int how = 0; how < 4; how++) {
            for (int s = 0; s < 40; s++) {
                due("related of one to itself", x.related(how, s, s), -1);
            }
            due("relation to another", x.relation(how, 0, 1), 1);
            due("related to another", x.related(how, 0, 1), 1);
            due("related to itself still not", x.related(how, 0, 0), -1);
            due("related from itself still not", x.related(how, 1, 1), -1);
        }
        due("no relation to a third one", x.related(0, 0, 2), 0);
        x.undo(3, 0, 1);
        x.order(0, 0);
        due("there are JOBS", x.count(2), 2);
        due("with JOBS, too", x.related(0, 0, 0), -1);
    }

    private static void busy() {
        ServiceTree x = withServices(3);
        x.relation(1, 1, 2);
        x.order(0, 0);
        due("relation(1, 1, 2) with JOBS", x.relation(1, 1, 2), -3);
        due("relation(2, 1, 2) with JOBS", x.relation(2, 1, 2), -3);
        due("BUSY is before CLASH", x.relation(0, 0, 1), -3);
        due("NONE is before BUSY", x.relation(4, 0, 1), -1);
        due("undo with JOBS", x.undo(1, 1, 2), -3);
        due("undo of none with JOBS", x.undo(0, 1, 2), -3);
        due("undo of wrong with JOBS", x.undo(0, 1, 3), -1);
        due("related is not BUSY", x.related(1, 1, 2), 1);
        x.tick(2);
        due("undo without JOBS", x.undo(1, 1, 2), 1);
    }

    private static void clash() {
        ServiceTree x = withServices(3);
        x.relation(0, 1, 0);
        x.order(0, 0);
        x.tick(2);
        due("a NEEDS one that is UP, told already", x.relation(0, 1, 0), -4);
        due("b is UP", x.relation(0, 2, 0), -4);
        due("a is UP", x.relation(0, 0, 2), -4);
        due("AGAINST one that is UP", x.relation(3, 2, 0), -4);
        due("AGAINST, a is UP", x.relation(3, 0, 2), -4);
        due("WANTS does not clash", x.relation(1, 2, 0), 1);
        due("BEHIND does not clash", x.relation(2, 2, 0), 1);
        due("both are DOWN", x.relation(0, 2, 1), 1);
        due("undo does not clash", x.undo(0, 1, 0), 1);
        x.life(0, 1, 1);
        x.again(0, 5, 1, 9);
        x.order(1, 0);
        x.tick(2);
        x.order(0, 0);
        x.tick(3);
        due("WAITING", x.about(0, 0), 5);
        due("WAITING clashes", x.relation(0, 1, 0), -4);
        x.tick(5);
        due("STARTING, with no JOBS", x.about(0, 0), 1);
        due("STARTING clashes", x.relation(3, 0, 1), -4);
        due("STARTING is not BUSY", x.relation(1, 0, 1), 1);
        failedDoesNotClash();
    }

    private static void failedDoesNotClash() {
        ServiceTree x = withServices(2);
        x.life(0, 0, 1);
        x.order(0, 0);
        x.tick(3);
        due("FAILED", x.about(0, 0), 4);
        due("FAILED does not clash", x.relation(0, 1, 0), 1);
        due("nor AGAINST", x.relation(3, 1, 0), 1);
    }

    private static void full() {
        ServiceTree x = withServices(22);
        int told = 0;
        for (int a = 0; a < 22; a++) {
            for (int b = 0; b < 22 && told < 399; b++) {
                if (a != b) {
                    told += x.relation(1, a, b);
                }
            }
        }
        due("count(1)", x.count(1), 399);
        due("an AGAINST is one", x.relation(3, 20, 21), 1);
        due("count(1)", x.count(1), 400);
        due("one more", x.relation(0, 20, 21), -6);
        due("told already", x.relation(1, 0, 1), 0);
        due("AGAINST told already, the other way", x.relation(3, 21, 20), 0);
        due("wrong ones", x.relation(0, 20, 20), -1);
        due("nothing came of the refused one", x.related(0, 20, 21), 0);
        due("undo", x.undo(1, 0, 1), 1);
        due("there is room again", x.relation(0, 20, 21), 1);
        due("and none again", x.relation(0, 19, 21), -6);
    }
}
