/** PLANS at the edges: what the latest one is, what it holds, how its JOBS are sorted, and how it differs from an order. */
public final class PlanEdgesTest {
    private static final Checks CHECKS = new Checks("PlanEdgesTest");

    public static void main(String[] args) {
        refusedKeepsTheLatest();
        laterCallsKeepIt();
        sortedByBeginThenService();
        beginsAndEnds();
        stopOfOneThatIsWaiting();
        stopOfOneWhoseDelayIsOver();
        startOfOneThatIsWaiting();
        nothingFails();
        sameAsOrder();
        CHECKS.end();
    }

    private static Story story(String name) {
        return new Story(CHECKS, name);
    }

    private static void refusedKeepsTheLatest() {
        story("refused in each way").rows("""
            make(0, 3, 4) = 0
            make(0, 3, 4) = 1
            make(0, 3, 4) = 2
            make(0, 3, 4) = 3
            make(0, 3, 4) = 4
            relation(0, 0, 1) = 1
            relation(0, 1, 0) = 1
            relation(0, 2, 3) = 1
            relation(3, 2, 3) = 1
            plan(0, 4) = 1
            quick() = 3
            plan(0, 5) = -1
            plan(0, -1) = -1
            plan(3, 4) = -1
            plan(-1, 4) = -1
            plan(0, 2) = -4
            plan(0, 0) = -5
            """).planned(4, 1, 0, 3).rows("""
            quick() = 3
            order(0, 4) = 1
            plan(1, 4) = -3
            """).planned(4, 1, 0, 3).row("tick(3)", 3).row("plan(1, 4)", 1).planned(4, 2, 0, 4)
            .row("quick()", 4).end();
    }

    private static void laterCallsKeepIt() {
        story("it is of the moment at which it was asked for").rows("""
            make(0, 3, 4) = 0
            make(0, 5, 0) = 1
            relation(0, 0, 1) = 1
            plan(0, 0) = 2
            make(0, 0, 0) = 2
            relation(0, 1, 2) = 1
            undo(0, 0, 1) = 1
            order(0, 0) = 1
            tick(9) = 9
            """).planned(1, 1, 0, 5, 0, 1, 5, 8).row("quick()", 8).end();
    }

    private static void sortedByBeginThenService() {
        // All that begins at 0 comes first, though 0 and 1 begin at 2 and are less.
        story("by the tick of beginning, then by the service").rows("""
            make(0, 1, 0) = 0
            make(0, 0, 0) = 1
            make(0, 2, 0) = 2
            make(0, 0, 0) = 3
            make(0, 7, 0) = 4
            relation(0, 0, 2) = 1
            relation(0, 1, 2) = 1
            relation(1, 0, 1) = 1
            relation(1, 0, 4) = 1
            relation(1, 0, 3) = 1
            plan(0, 0) = 5
            """).planned(2, 1, 0, 2, 3, 1, 0, 0, 4, 1, 0, 7, 0, 1, 2, 3, 1, 1, 2, 2).row("quick()", 7).end();
        story("not by the turn in which they begin").rows("""
            make(3, 0, 0) = 0
            make(3, 0, 0) = 1
            make(3, 0, 0) = 2
            relation(0, 0, 1) = 1
            relation(0, 1, 2) = 1
            plan(0, 0) = 3
            """).planned(0, 1, 0, 0, 1, 1, 0, 0, 2, 1, 0, 0).row("quick()", 0).end();
        story("starts and stops among one another").rows("""
            make(0, 1, 1) = 0
            make(0, 0, 1) = 1
            make(0, 1, 1) = 2
            make(0, 0, 3) = 3
            relation(1, 2, 0) = 1
            relation(3, 1, 2) = 1
            order(0, 1) = 1
            order(0, 3) = 1
            plan(2, 2) = 4
            """).planned(0, 1, 0, 1, 1, 2, 0, 1, 3, 2, 0, 3, 2, 1, 1, 2).row("quick()", 3).end();
    }

    private static void beginsAndEnds() {
        story("the latest of those for which it waits").rows("""
            make(0, 50, 50) = 0
            make(0, 49, 50) = 1
            make(0, 1, 1) = 2
            make(0, 0, 0) = 3
            relation(0, 2, 0) = 1
            relation(2, 2, 1) = 1
            relation(1, 2, 1) = 1
            relation(0, 3, 2) = 1
            plan(0, 3) = 4
            """).planned(0, 1, 0, 50, 1, 1, 0, 49, 2, 1, 50, 51, 3, 1, 51, 51).row("quick()", 51).end();
        story("from 0 on: now, whatever TICK is").rows("""
            make(0, 2, 3) = 0
            tick(1000) = 1000
            plan(0, 0) = 1
            """).planned(0, 1, 0, 2).row("order(0, 0)", 1).row("tick(2)", 1002).row("plan(1, 0)", 1)
            .planned(0, 2, 0, 3).row("plan(2, 0)", 0).row("quick()", 0).end();
    }

    /** 0 became WAITING at tick 1; 1, which is BEHIND it, is UP and takes so many ticks to stop. */
    private static Story waiting(String name, int delay, int stopOfOther) {
        return story(name).rows("""
            make(0, 0, 7) = 0
            """).row("make(0, 0, " + stopOfOther + ")", 1).rows("""
            make(0, 0, 0) = 2
            relation(2, 1, 0) = 1
            life(0, 0, 1) = 0
            """).row("again(0, " + delay + ", 1, 1)", 1).rows("""
            order(0, 0) = 1
            order(0, 1) = 1
            order(0, 2) = 1
            tick(1) = 1
            """).states(5, 2, 2);
    }

    private static void stopOfOneThatIsWaiting() {
        waiting("DOWN at once", 9, 4).row("plan(1, 0)", 1).planned(0, 2, 0, 0).row("order(1, 0)", 1)
            .states(0, 2, 2).end();
        waiting("WAITING still when its JOB begins", 5, 4).row("plan(2, 2)", 2).planned(1, 2, 0, 4, 0, 2, 4, 4)
            .row("order(2, 2)", 2).row("tick(4)", 5).states(0, 0, 2).row("count(2)", 0).end();
        waiting("its DELAY is over by then, so that it is UP and has to stop", 4, 4).row("plan(2, 2)", 2)
            .planned(1, 2, 0, 4, 0, 2, 4, 11).row("order(2, 2)", 2).row("tick(4)", 5).states(3, 0, 2)
            .row("tick(6)", 11).states(3, 0, 2).row("tick(1)", 12).states(0, 0, 2).row("count(2)", 0).end();
    }

    private static void stopOfOneWhoseDelayIsOver() {
        // DELAY is told shorter while it waits: it is over by now, but no tick has come to wake it.
        waiting("it is WAITING now, and DOWN at once", 9, 1).row("tick(5)", 6).row("again(0, 1, 1, 1)", 1)
            .row("plan(1, 0)", 1).planned(0, 2, 0, 0).row("order(1, 0)", 1).states(0, 2, 2).end();
        waiting("one tick is enough to wake it", 9, 1).row("tick(5)", 6).row("again(0, 1, 1, 1)", 1)
            .row("plan(2, 2)", 2).planned(1, 2, 0, 1, 0, 2, 1, 8).row("order(2, 2)", 2).row("tick(1)", 7)
            .states(3, 0, 2).row("tick(6)", 13).states(3, 0, 2).row("tick(1)", 14).states(0, 0, 2).end();
    }

    private static void startOfOneThatIsWaiting() {
        story("it is started like one that is DOWN").rows("""
            make(0, 3, 0) = 0
            life(0, 0, 1) = 0
            again(0, 50, 1, 1) = 1
            order(0, 0) = 1
            tick(4) = 4
            about(0, 0) = 5
            plan(0, 0) = 1
            """).planned(0, 1, 0, 3).row("about(0, 0)", 5).row("changes()", 3).end();
    }

    private static void nothingFails() {
        story("no LIFE ends and nothing fails in a PLAN").rows("""
            make(0, 0, 0) = 0
            make(0, 5, 0) = 1
            make(0, 5, 0) = 2
            relation(0, 1, 0) = 1
            relation(0, 2, 1) = 1
            life(0, 0, 1) = 0
            life(1, 0, 1) = 0
            plan(0, 2) = 3
            """).planned(0, 1, 0, 0, 1, 1, 0, 5, 2, 1, 5, 10).row("quick()", 10)
            .row("order(0, 2)", 3).row("tick(1)", 1).states(4, 0, 0).row("count(2)", 0).end();
    }

    private static void sameAsOrder() {
        story("each order is as planned").rows("""
            make(0, 2, 1) = 0
            make(0, 3, 2) = 1
            make(0, 0, 3) = 2
            make(0, 1, 0) = 3
            relation(0, 0, 1) = 1
            relation(1, 0, 3) = 1
            relation(3, 0, 2) = 1
            order(0, 2) = 1
            plan(0, 0) = 4
            quick() = 5
            order(0, 0) = 4
            tick(4) = 4
            count(2) = 1
            tick(1) = 5
            count(2) = 0
            plan(1, 1) = 2
            quick() = 3
            order(1, 1) = 2
            tick(2) = 7
            count(2) = 1
            tick(1) = 8
            count(2) = 0
            plan(2, 2) = 2
            quick() = 0
            order(2, 2) = 2
            count(2) = 0
            """).end();
    }
}
