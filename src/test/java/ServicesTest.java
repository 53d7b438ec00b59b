/** Promises 1 to 4: a new object, make, life, again. */
public final class ServicesTest {
    private static final Checks CHECKS = new Checks("ServicesTest");

    public static void main(String[] args) {
        newObject();
        makeOrdinary();
        makeWrong();
        makeFull();
        lifeTold();
        lifeRuns();
        lifeBeyondTheEighthStart();
        lifeToldLaterIsForLaterStarts();
        againTold();
        againWindow();
        againFullBudget();
        againDelayToldWhileWaiting();
        CHECKS.end();
    }

    private static void due(String call, int got, int want) {
        CHECKS.due(call, got, want);
    }

    private static void newObject() {
        ServiceTree x = new ServiceTree();
        for (int what = 0; what <= 5; what++) {
            due("new: count(" + what + ")", x.count(what), 0);
            due("new: in(" + what + ")", x.in(what), 0);
        }
        due("new: about(0, 0)", x.about(0, 0), -1);
        due("new: changes()", x.changes(), 0);
        due("new: change(0, 0)", x.change(0, 0), -1);
        due("new: quick()", x.quick(), -1);
        due("new: planned(0, 0)", x.planned(0, 0), -1);
        due("new: ring()", x.ring(), 0);
        due("new: check()", x.check(), 0);
        due("new: order(0, 0)", x.order(0, 0), -1);
        due("new: tick(1)", x.tick(1), 1);
        due("another new: count(3)", new ServiceTree().count(3), 0);
    }

    private static void makeOrdinary() {
        ServiceTree x = new ServiceTree();
        due("make(0, 0, 0)", x.make(0, 0, 0), 0);
        due("make(1, 50, 50)", x.make(1, 50, 50), 1);
        due("make(2, 1, 0)", x.make(2, 1, 0), 2);
        x.tick(7);
        due("make(3, 0, 0)", x.make(3, 0, 0), 3);
        due("count(0)", x.count(0), 4);
        due("in(0)", x.in(0), 4);
        for (int s = 0; s < 4; s++) {
            due("kind of " + s, x.about(s, 9), s);
            due("state of " + s, x.about(s, 0), 0);
        }
        due("made at tick 0: DOWN since", x.about(0, 1), 0);
        due("made at tick 7: DOWN since", x.about(3, 1), 7);
        due("being made is no change", x.changes(), 0);
    }

    private static void makeWrong() {
        ServiceTree x = new ServiceTree();
        due("make(-1, 0, 0)", x.make(-1, 0, 0), -1);
        due("make(4, 0, 0)", x.make(4, 0, 0), -1);
        due("make(0, -1, 0)", x.make(0, -1, 0), -1);
        due("make(0, 0, -1)", x.make(0, 0, -1), -1);
        due("make(0, 51, 0)", x.make(0, 51, 0), -1);
        due("make(0, 0, 51)", x.make(0, 0, 51), -1);
        due("make(3, 1, 0)", x.make(3, 1, 0), -1);
        due("make(3, 0, 1)", x.make(3, 0, 1), -1);
        due("make(min, min, min)", x.make(Integer.MIN_VALUE, Integer.MIN_VALUE, Integer.MIN_VALUE), -1);
        due("make(max, max, max)", x.make(Integer.MAX_VALUE, Integer.MAX_VALUE, Integer.MAX_VALUE), -1);
        due("none was made", x.count(0), 0);
    }

    private static void makeFull() {
        ServiceTree x = new ServiceTree();
        for (int s = 0; s < 40; s++) {
            due("make no. " + s, x.make(s % 4, 0, 0), s);
        }
        due("make no. 40", x.make(0, 0, 0), -6);
        due("NONE is before FULL", x.make(4, 0, 0), -1);
        due("count(0)", x.count(0), 40);
        due("about(39, 0)", x.about(39, 0), 0);
        due("about(40, 0)", x.about(40, 0), -1);
        due("order(0, 39)", x.order(0, 39), 1);
        due("in(2)", x.in(2), 1);
    }

    private static void lifeTold() {
        ServiceTree x = new ServiceTree();
        x.make(0, 0, 0);
        x.make(3, 0, 0);
        x.make(1, 0, 0);
        due("life(0, 0, 1000)", x.life(0, 0, 1000), 0);
        due("life(0, 0, 5)", x.life(0, 0, 5), 1000);
        due("life(0, 7, 1)", x.life(0, 7, 1), 0);
        due("life(0, 7, 0)", x.life(0, 7, 0), 1);
        due("life(2, 0, 3)", x.life(2, 0, 3), 0);
        due("life(1, 0, 1): a GROUP", x.life(1, 0, 1), -2);
        due("life(1, 8, 1): NONE first", x.life(1, 8, 1), -1);
        due("life(1, 0, 1001): NONE first", x.life(1, 0, 1001), -1);
        due("life(3, 0, 1)", x.life(3, 0, 1), -1);
        due("life(-1, 0, 1)", x.life(-1, 0, 1), -1);
        due("life(0, -1, 1)", x.life(0, -1, 1), -1);
        due("life(0, 8, 1)", x.life(0, 8, 1), -1);
        due("life(0, 0, -1)", x.life(0, 0, -1), -1);
        due("life(0, 0, 1001)", x.life(0, 0, 1001), -1);
        due("what is refused changes nothing", x.life(0, 0, 0), 5);
    }

    private static void lifeRuns() {
        ServiceTree x = new ServiceTree();
        x.make(0, 2, 0);
        x.make(0, 0, 0);
        x.life(0, 0, 3);
        x.life(1, 0, 1);
        x.order(0, 0);
        x.tick(4);
        due("UP at 2 with LIFE 3, at 4", x.about(0, 0), 2);
        x.tick(1);
        due("at 5", x.about(0, 0), 4);
        due("FAILED at 5", x.about(0, 1), 5);
        x.order(0, 1);
        due("UP at once, with LIFE 1", x.about(1, 0), 2);
        x.tick(1);
        due("one tick later", x.about(1, 0), 4);
        x.order(0, 0);
        x.tick(900);
        due("second start has LIFE 0: it stays UP", x.about(0, 0), 2);
    }

    private static void lifeBeyondTheEighthStart() {
        ServiceTree x = new ServiceTree();
        x.make(0, 0, 0);
        for (int i = 0; i < 8; i++) {
            x.life(0, i, i + 1);
        }
        for (int start = 0; start < 11; start++) {
            int life = Math.min(start, 7) + 1;
            due("start " + start, x.order(0, 0), 1);
            if (life > 1) {
                x.tick(life - 1);
            }
            due("start " + start + ", the tick before its end", x.about(0, 0), 2);
            x.tick(1);
            due("start " + start + ", over", x.about(0, 0), 4);
        }
        due("starts", x.about(0, 2), 11);
        due("failures", x.about(0, 3), 11);
    }

    private static void lifeToldLaterIsForLaterStarts() {
        ServiceTree x = new ServiceTree();
        x.make(0, 1, 0);
        x.life(0, 0, 9);
        x.order(0, 0);
        x.life(0, 0, 4);
        x.tick(1);
        due("told while it was STARTING: it counts. Told now:", x.life(0, 0, 2), 4);
        x.tick(3);
        due("3 ticks UP", x.about(0, 0), 2);
        x.tick(1);
        due("4 ticks UP", x.about(0, 0), 4);
        x.make(0, 0, 0);
        x.order(0, 1);
        x.life(1, 0, 1);
        x.tick(5);
        due("LIFE was 0 when it became UP", x.about(1, 0), 2);
    }

    private static void againTold() {
        ServiceTree x = new ServiceTree();
        x.make(0, 0, 0);
        x.make(3, 0, 0);
        due("again(0, 1, 0, 1)", x.again(0, 1, 0, 1), 1);
        due("again(0, 50, 10, 200)", x.again(0, 50, 10, 200), 1);
        due("again of a GROUP", x.again(1, 1, 1, 1), 1);
        due("again(2, 1, 1, 1)", x.again(2, 1, 1, 1), -1);
        due("again(-1, 1, 1, 1)", x.again(-1, 1, 1, 1), -1);
        due("again(0, 0, 1, 1)", x.again(0, 0, 1, 1), -1);
        due("again(0, 51, 1, 1)", x.again(0, 51, 1, 1), -1);
        due("again(0, 1, -1, 1)", x.again(0, 1, -1, 1), -1);
        due("again(0, 1, 11, 1)", x.again(0, 1, 11, 1), -1);
        due("again(0, 1, 1, 0)", x.again(0, 1, 1, 0), -1);
        due("again(0, 1, 1, 201)", x.again(0, 1, 1, 201), -1);
        x.again(0, 2, 1, 200);
        x.again(0, 51, 1, 1);
        x.life(0, 0, 1);
        x.order(0, 0);
        x.tick(1);
        due("WAITING", x.about(0, 0), 5);
        x.tick(1);
        due("still WAITING: the refused DELAY changed nothing", x.about(0, 0), 5);
        x.tick(1);
        due("UP again after DELAY 2", x.about(0, 0), 2);
    }

    private static void againWindow() {
        // UP at 0, LIFE 1, DELAY 1: WAITING at 1, UP at 2, and fails at 3.
        due("WINDOW 2 at tick 3 has not tick 1", stateAtThree(1, 2), 5);
        due("WINDOW 3 at tick 3 has tick 1", stateAtThree(1, 3), 4);
        due("BUDGET 2", stateAtThree(2, 200), 5);
        due("BUDGET 0", stateAtThree(0, 200), 4);
    }

    private static int stateAtThree(int budget, int window) {
        ServiceTree x = new ServiceTree();
        x.make(0, 0, 0);
        for (int i = 0; i < 8; i++) {
            x.life(0, i, 1);
        }
        x.again(0, 1, budget, window);
        x.order(0, 0);
        x.tick(3);
        return x.about(0, 0);
    }

    private static void againFullBudget() {
        ServiceTree x = new ServiceTree();
        x.make(0, 0, 0);
        for (int i = 0; i < 8; i++) {
            x.life(0, i, 1);
        }
        x.again(0, 1, 10, 20);
        x.order(0, 0);
        // WAITING at 1, 3, .. 19; at 21 the last 20 ticks are 2 .. 21, with nine of them.
        x.tick(21);
        due("WAITING at 21", x.about(0, 0), 5);
        due("eleven times", x.about(0, 3), 11);
        x.again(0, 1, 10, 21);
        x.tick(2);
        due("at 23, WINDOW 21: ten of them are within 3 .. 23", x.about(0, 0), 4);
        x.order(0, 0);
        x.tick(1);
        due("times are not forgotten by an order: at 24 those from 4 on", x.about(0, 0), 5);
    }

    private static void againDelayToldWhileWaiting() {
        ServiceTree x = new ServiceTree();
        x.make(0, 0, 0);
        x.life(0, 0, 1);
        x.again(0, 50, 1, 1);
        x.order(0, 0);
        x.tick(10);
        due("WAITING", x.about(0, 0), 5);
        x.again(0, 3, 0, 1);
        due("it is still WAITING", x.about(0, 0), 5);
        x.tick(1);
        due("it has been so for 3 ticks long since", x.about(0, 0), 2);
    }
}
