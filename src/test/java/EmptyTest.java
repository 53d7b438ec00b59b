/** What each call answers before there is anything to ask for, or when there is none left. */
public final class EmptyTest {
    private static final Checks CHECKS = new Checks("EmptyTest");

    public static void main(String[] args) {
        newObject();
        objectsAreApart();
        oneService();
        noJobs();
        noPlan();
        planWithoutJobs();
        noRing();
        noChange();
        noLetters();
        noRelations();
        CHECKS.end();
    }

    private static void told(String name, String rows) {
        Story.of(CHECKS, name, rows);
    }

    private static void newObject() {
        Story story = new Story(CHECKS, "a new object");
        for (int what = 0; what <= 5; what++) {
            story.row("count(" + what + ")", 0);
            story.row("in(" + what + ")", 0);
        }
        for (int what = 0; what <= 9; what++) {
            story.row("about(0, " + what + ")", -1);
            story.row("planned(0, " + what + ")", -1);
            story.row("change(0, " + what + ")", -1);
        }
        story.rows("""
            quick() = -1
            ring() = 0
            changes() = 0
            check() = 0
            life(0, 0, 1) = -1
            again(0, 1, 1, 1) = -1
            relation(0, 0, 1) = -1
            undo(0, 0, 1) = -1
            related(0, 0, 1) = -1
            order(0, 0) = -1
            plan(0, 0) = -1
            waits(0, 0) = -1
            letter(0) = -1
            tick(1) = 1
            count(3) = 1
            make(0, 0, 0) = 0
            """).end();
    }

    private static void objectsAreApart() {
        ServiceTree x = new ServiceTree();
        ServiceTree y = new ServiceTree();
        x.make(2, 0, 0);
        x.make(0, 0, 0);
        x.relation(0, 0, 1);
        x.letter(0);
        x.plan(1, 0);
        x.tick(5);
        String difference = new Picture(y, true).differsFrom(new Picture(new ServiceTree(), true));
        CHECKS.that("another object stays new, but " + difference, difference == null);
        y.make(2, 0, 0);
        CHECKS.due("its LETTERS are numbered from 0 on", y.letter(0), 0);
        CHECKS.due("its TICK is its own", y.tick(1), 1);
    }

    private static void oneService() {
        told("a service that was only made, at TICK 0", """
            make(2, 3, 3) = 0
            count(0) = 1
            in(0) = 1
            in(1) = 0
            in(2) = 0
            in(3) = 0
            in(4) = 0
            in(5) = 0
            about(0, 0) = 0     # DOWN at first
            about(0, 1) = 0
            about(0, 2) = 0     # no starts
            about(0, 3) = 0
            about(0, 4) = 0
            about(0, 5) = 0
            about(0, 6) = 0     # an empty door
            about(0, 7) = 0
            about(0, 8) = -1    # before any
            about(0, 9) = 2
            changes() = 0       # to be made is no change of STATE
            tick(1000) = 1000   # and nothing comes by itself
            changes() = 0
            about(0, 0) = 0
            about(0, 1) = 0
            """);
        told("a service that is made later is DOWN from then on", """
            tick(7) = 7
            make(0, 0, 0) = 0
            about(0, 0) = 0
            about(0, 1) = 7
            tick(1) = 8
            about(0, 1) = 7
            """);
        told("LIFE is 0 at first, of every start", """
            make(0, 0, 0) = 0
            life(0, 0, 0) = 0
            life(0, 1, 0) = 0
            life(0, 2, 0) = 0
            life(0, 3, 0) = 0
            life(0, 4, 0) = 0
            life(0, 5, 0) = 0
            life(0, 6, 0) = 0
            life(0, 7, 0) = 0
            """);
        told("BUDGET is 0 at first", """
            make(0, 0, 0) = 0
            life(0, 0, 1) = 0
            order(0, 0) = 1
            tick(1) = 1
            about(0, 0) = 4
            about(0, 3) = 1
            """);
    }

    private static void noJobs() {
        told("an order without JOBS", """
            make(0, 1, 1) = 0
            make(0, 0, 0) = 1
            order(1, 0) = 0     # it is DOWN
            changes() = 0
            count(2) = 0
            waits(0, 0) = 0
            waits(0, 1) = 0
            order(0, 1) = 1
            count(2) = 0        # it has ended at once
            waits(1, 0) = 0
            waits(1, 1) = 0
            order(0, 1) = 0     # it is UP
            order(2, 1) = 0
            changes() = 1
            order(0, 0) = 1     # an order without JOBS leaves none to be BUSY with
            order(0, 0) = -3
            tick(1) = 1
            order(0, 0) = 0
            count(2) = 0
            """);
    }

    private static void noPlan() {
        told("before any PLAN", """
            make(0, 1, 1) = 0
            make(0, 1, 1) = 1
            relation(0, 0, 1) = 1
            relation(0, 1, 0) = 1
            quick() = -1
            planned(0, 0) = -1
            plan(3, 0) = -1     # refused: still before any
            plan(0, 0) = -5
            quick() = -1
            planned(0, 0) = -1
            undo(0, 1, 0) = 1
            order(0, 0) = 2
            quick() = -1        # an order is no PLAN
            planned(0, 0) = -1
            plan(0, 0) = -3
            quick() = -1
            tick(2) = 2
            plan(1, 1) = 2
            quick() = 2
            """);
    }

    private static void planWithoutJobs() {
        told("a PLAN without JOBS", """
            make(0, 1, 1) = 0
            plan(1, 0) = 0
            quick() = 0         # not NONE any more
            planned(0, 0) = -1
            planned(0, 1) = -1
            planned(0, 2) = -1
            planned(0, 3) = -1
            plan(0, 0) = 1
            quick() = 1
            planned(0, 0) = 0
            plan(1, 0) = 0      # the latest has none again
            quick() = 0
            planned(0, 0) = -1
            """);
        told("a PLAN whose JOBS take no tick", """
            make(0, 0, 0) = 0
            plan(0, 0) = 1
            quick() = 0
            planned(0, 0) = 0
            planned(0, 2) = 0
            planned(0, 3) = 0
            planned(1, 0) = -1
            """);
    }

    private static void noRing() {
        told("before any RING", """
            make(0, 1, 1) = 0
            make(0, 1, 1) = 1
            ring() = 0
            relation(0, 0, 1) = 1
            relation(3, 0, 1) = 1
            order(0, 0) = -4    # refused otherwise
            order(0, 2) = -1
            plan(0, 0) = -4
            ring() = 0
            order(0, 1) = 1
            order(0, 1) = -3
            ring() = 0
            """);
    }

    private static void noChange() {
        told("before any change", """
            change(0, 0) = -1
            make(0, 1, 0) = 0
            tick(3) = 3
            changes() = 0
            change(0, 0) = -1
            order(0, 0) = 1
            changes() = 1
            change(0, 0) = 3
            change(0, 1) = 0
            change(0, 2) = 1
            change(1, 0) = -1
            """);
    }

    private static void noLetters() {
        told("an empty door", """
            make(2, 0, 0) = 0
            order(0, 0) = 1
            tick(2) = 2
            about(0, 7) = 0     # UP, but there is none to read
            about(0, 8) = -1
            count(4) = 0
            count(5) = 0
            letter(0) = 0
            about(0, 8) = -1    # it lies there
            tick(1) = 3
            about(0, 6) = 0
            about(0, 7) = 1
            about(0, 8) = 0
            tick(10) = 13       # empty again
            about(0, 7) = 1
            count(5) = 1
            """);
    }

    private static void noRelations() {
        told("no RELATIONS", """
            make(0, 1, 1) = 0
            make(0, 1, 1) = 1
            undo(0, 0, 1) = 0
            undo(1, 0, 1) = 0
            undo(2, 0, 1) = 0
            undo(3, 0, 1) = 0
            count(1) = 0        # it does not fall below 0
            related(0, 0, 1) = 0
            related(3, 1, 0) = 0
            relation(2, 0, 1) = 1
            undo(2, 1, 0) = 0   # it is not the other way round
            count(1) = 1
            undo(2, 0, 1) = 1
            undo(2, 0, 1) = 0
            count(1) = 0
            """);
    }
}
