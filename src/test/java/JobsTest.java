/** JOBS at the edges: what they wait for, in which turn they begin, when they fall out, when they end; a tick's turns. */
public final class JobsTest {
    private static final Checks CHECKS = new Checks("JobsTest");

    public static void main(String[] args) {
        startWaitsForStarts();
        startWaitsForStops();
        stopWaitsForStops();
        noJobWaitsForNone();
        leastBegins();
        leastOfThoseThatWaitForNone();
        startFallsOut();
        startFallsOutByEachState();
        startDoesNotFallOut();
        fallingOutFreesTheNext();
        stopFallsOut();
        stopOfOneThatIsStopping();
        stopOfOneThatIsWaiting();
        stopOfOneThatHasWoken();
        startEndsWithGoing();
        wakingFails();
        wakingBesideOthers();
        wakingAtTheSameTick();
        goingIsOfStartingAndUp();
        goingLeastFirst();
        turnsOfATick();
        CHECKS.end();
    }

    private static Story story(String name) {
        return new Story(CHECKS, name);
    }

    private static Story services(String name, int n, int start, int stop) {
        Story story = story(name);
        for (int s = 0; s < n; s++) {
            story.row("make(0, " + start + ", " + stop + ")", s);
        }
        return story;
    }

    private static void startWaitsForStarts() {
        services("a start waits for those that it NEEDS or is BEHIND", 6, 2, 0).rows("""
            order(0, 5) = 1
            tick(2) = 2
            relation(0, 0, 1) = 1
            relation(2, 0, 2) = 1
            relation(2, 0, 5) = 1    # UP: it has no JOB
            relation(2, 0, 4) = 1    # DOWN, and no member
            relation(0, 0, 3) = 1
            relation(2, 0, 3) = 1    # both, but one JOB
            relation(1, 0, 2) = 1
            order(0, 0) = 4
            waits(0, 0) = 3
            waits(0, 1) = 0
            waits(1, 1) = 1
            waits(2, 1) = 1
            waits(3, 1) = 1
            waits(4, 0) = 0
            waits(4, 1) = 0
            waits(5, 1) = 0
            tick(1) = 3
            waits(0, 0) = 3
            tick(1) = 4
            waits(0, 0) = 0
            waits(1, 1) = 0
            """).states(1, 2, 2, 2, 0, 2).end();
    }

    private static void startWaitsForStops() {
        services("a start waits for the stops of those AGAINST it", 4, 2, 2).rows("""
            relation(3, 0, 1) = 1
            relation(0, 2, 1) = 1
            relation(2, 0, 3) = 1
            relation(2, 3, 0) = 1
            order(0, 2) = 2
            tick(4) = 4
            order(0, 3) = 1
            tick(2) = 6
            order(0, 0) = 3
            waits(0, 0) = 1          # 1, but not 2, which only NEEDS 1
            waits(1, 0) = 1
            waits(1, 1) = 1
            waits(2, 0) = 0
            waits(2, 1) = 1
            tick(3) = 9
            """).states(0, 3, 0, 2).row("waits(0, 0)", 1).row("tick(1)", 10).states(1, 0, 0, 2)
            .row("waits(0, 0)", 0).end();
        services("a stop does not wait for starts, BEHIND or not", 3, 2, 2).rows("""
            order(0, 1) = 1
            tick(2) = 2
            relation(2, 0, 1) = 1    # 0, which starts, is BEHIND 1, which stops
            relation(2, 1, 0) = 1
            order(2, 0) = 2
            waits(0, 0) = 0
            waits(1, 0) = 0
            """).states(1, 3, 0).end();
    }

    private static void stopWaitsForStops() {
        services("a stop waits for those that NEED it or are BEHIND it", 5, 0, 2).rows("""
            relation(0, 1, 0) = 1
            relation(2, 2, 0) = 1
            relation(2, 3, 0) = 1
            relation(2, 0, 4) = 1
            order(0, 1) = 2
            order(0, 2) = 1
            order(0, 4) = 1
            order(2, 3) = 5          # 3 starts; 0, 1, 2, 4 stop
            waits(0, 0) = 2
            waits(4, 0) = 1
            waits(0, 1) = 1
            waits(3, 0) = 0
            """).states(2, 3, 3, 2, 2).row("tick(2)", 2).states(3, 0, 0, 2, 2)
            .row("tick(2)", 4).states(0, 0, 0, 2, 3).row("tick(2)", 6).row("in(2)", 1).end();
    }

    private static void noJobWaitsForNone() {
        services("one without a JOB, beside one that stops", 3, 0, 3).rows("""
            relation(2, 1, 0) = 1    # 1 is BEHIND 0
            relation(0, 1, 2) = 1
            order(0, 0) = 1
            order(0, 1) = 2
            order(1, 1) = 1
            waits(0, 0) = 0
            waits(2, 0) = 0
            waits(1, 0) = 0
            waits(1, 1) = 0
            tick(3) = 3
            waits(1, 0) = 0
            """).states(2, 0, 2).end();
        services("one without a JOB, beside one that starts", 3, 3, 0).rows("""
            relation(0, 0, 1) = 1    # 0 NEEDS 1
            relation(2, 2, 1) = 1
            relation(3, 2, 0) = 1
            order(0, 1) = 1
            waits(0, 0) = 0
            waits(2, 0) = 0
            waits(1, 0) = 0
            waits(1, 1) = 0
            tick(3) = 3
            """).states(0, 2, 0).end();
    }

    private static void leastBegins() {
        services("the least service first", 4, 0, 0).rows("""
            relation(1, 3, 2) = 1
            relation(1, 3, 0) = 1
            relation(1, 3, 1) = 1
            order(0, 3) = 4
            """).changesFrom(0, 0, 0, 2, 0, 1, 2, 0, 2, 2, 0, 3, 2)
            .row("relation(2, 0, 3)", 1).row("make(0, 0, 0)", 4).row("order(2, 4)", 5)
            .changesFrom(4, 0, 0, 0, 0, 1, 0, 0, 2, 0, 0, 3, 0, 0, 4, 2).end();
    }

    private static void leastOfThoseThatWaitForNone() {
        // 0 waits for 2: 1 begins first, then 2, then 0, which is the least again, then 3.
        services("as soon as one waits no more, it has its turn", 4, 0, 0).rows("""
            relation(2, 0, 2) = 1
            relation(1, 3, 0) = 1
            relation(1, 3, 1) = 1
            relation(1, 3, 2) = 1
            order(0, 3) = 4
            """).changesFrom(0, 0, 1, 2, 0, 2, 2, 0, 0, 2, 0, 3, 2).end();
    }

    private static void startFallsOut() {
        // 1 NEEDS 0, which is UP when 1 is ordered and fails while 1 waits for 2.
        String ordered = """
            relation(0, 1, 0) = 1
            relation(2, 1, 2) = 1
            relation(1, 1, 2) = 1
            life(0, 0, 3) = 0
            order(0, 0) = 1
            tick(3) = 3
            order(0, 1) = 2
            """;
        services("it fails at the very tick: the JOB falls out", 3, 3, 0).rows(ordered).row("tick(2)", 5)
            .states(2, 0, 1).row("about(1, 5)", 1).row("tick(1)", 6).states(4, 0, 2)
            .row("about(1, 5)", 0).row("count(2)", 0).row("about(1, 2)", 0).row("about(1, 3)", 0).end();
        services("it fails one tick later: the JOB has begun", 3, 3, 0)
            .rows(ordered.replace("life(0, 0, 3)", "life(0, 0, 4)")).row("tick(3)", 6).states(2, 1, 2)
            .row("tick(1)", 7).states(4, 0, 2).row("about(1, 2)", 0).end();
    }

    private static void startFallsOutByEachState() {
        // 2 NEEDS 0 and waits for 1, which takes 5 ticks; 0 is UP until tick 2.
        String before = """
            make(0, 0, 0) = 0
            make(0, 5, 0) = 1
            make(0, 0, 0) = 2
            make(0, 0, 0) = 3
            relation(0, 2, 0) = 1
            relation(2, 2, 1) = 1
            relation(1, 2, 1) = 1
            life(0, 0, 2) = 0
            """;
        story("FAILED").rows(before).row("order(0, 2)", 3).row("tick(5)", 5).states(4, 2, 0)
            .row("count(2)", 0).end();
        story("WAITING").rows(before).row("again(0, 4, 1, 1)", 1).row("order(0, 2)", 3).row("tick(5)", 5)
            .states(5, 2, 0).row("count(2)", 0).row("tick(1)", 6).states(2, 2, 0).end();
        story("WAITING, but UP again by the tick at which the JOB begins").rows(before).row("again(0, 3, 1, 1)", 1)
            .row("order(0, 2)", 3).row("tick(5)", 5).states(2, 2, 2).row("count(2)", 0).end();
    }

    private static void startDoesNotFallOut() {
        services("what it WANTS or is BEHIND may be FAILED", 3, 2, 0).rows("""
            relation(1, 0, 1) = 1
            relation(2, 0, 1) = 1
            relation(2, 0, 2) = 1
            relation(1, 0, 2) = 1
            life(1, 0, 1) = 0
            order(0, 0) = 3
            tick(2) = 2
            """).states(1, 2, 2).row("tick(1)", 3).states(1, 4, 2).row("tick(1)", 4).states(2, 4, 2).end();
    }

    private static void fallingOutFreesTheNext() {
        // 0 fails at 3; at 3, too, 4 is UP, for which 1 waits; with the JOB of 1 those of 2 and 3 fall out at once.
        services("a JOB that falls out is waited for no more", 7, 0, 0).rows("""
            make(0, 3, 0) = 7
            relation(0, 1, 0) = 1
            relation(0, 2, 1) = 1
            relation(0, 3, 2) = 1
            relation(2, 5, 3) = 1
            relation(2, 1, 7) = 1
            relation(1, 3, 7) = 1
            relation(1, 3, 5) = 1
            life(0, 0, 3) = 0
            order(0, 3) = 6
            waits(5, 0) = 1
            tick(2) = 2
            count(2) = 5
            tick(1) = 3
            count(2) = 0
            """).states(4, 0, 0, 0, 0, 2, 0, 2).end();
        services("the least first, though a greater one falls out", 4, 0, 0).rows("""
            make(0, 1, 0) = 4
            relation(0, 3, 2) = 1
            relation(2, 3, 4) = 1
            relation(2, 0, 3) = 1
            relation(2, 1, 4) = 1
            relation(1, 3, 0) = 1
            relation(1, 3, 1) = 1
            relation(1, 3, 4) = 1
            life(2, 0, 1) = 0
            order(0, 3) = 5
            tick(1) = 1
            """).changesFrom(0, 0, 2, 2, 0, 4, 1, 1, 2, 4, 1, 4, 2, 1, 1, 2, 1, 0, 2).end();
    }

    private static void stopFallsOut() {
        // 0 fails or goes while its JOB to stop waits for 1, which is BEHIND it.
        services("FAILED by now", 3, 0, 3).rows("""
            relation(2, 1, 0) = 1
            life(0, 0, 3) = 0
            order(0, 0) = 1
            order(0, 1) = 1
            order(2, 2) = 3
            tick(2) = 2
            """).states(2, 3, 2).row("tick(1)", 3).states(4, 0, 2).row("count(2)", 0).end();
        services("FAILED one tick later, but STOPPING already", 3, 0, 3).rows("""
            relation(2, 1, 0) = 1
            life(0, 0, 4) = 0
            order(0, 0) = 1
            order(0, 1) = 1
            order(2, 2) = 3
            tick(3) = 3
            """).states(3, 0, 2).row("tick(3)", 6).states(0, 0, 2).row("about(0, 3)", 0).end();
        story("DOWN by now").rows("""
            make(0, 0, 0) = 0
            make(0, 0, 3) = 1
            make(0, 0, 0) = 2
            make(0, 0, 0) = 3
            relation(0, 0, 3) = 1
            relation(2, 1, 0) = 1
            life(3, 0, 1) = 0
            order(0, 0) = 2
            order(0, 1) = 1
            order(2, 2) = 4
            tick(1) = 1
            """).states(0, 3, 2, 4).rows("""
            about(0, 5) = 2          # it waits still
            about(3, 5) = 2
            changes() = 7
            tick(2) = 3
            changes() = 8            # only 1 is DOWN
            count(2) = 0
            """).end();
    }

    private static void stopOfOneThatIsStopping() {
        // 0 goes at 1, as 3 fails, with STOP 4; its JOB begins at 2 and must not begin its STOPPING anew.
        story("it goes on so").rows("""
            make(0, 0, 4) = 0
            make(0, 0, 2) = 1
            make(0, 0, 0) = 2
            make(0, 0, 0) = 3
            relation(0, 0, 3) = 1
            relation(2, 1, 0) = 1
            relation(3, 2, 0) = 1
            relation(3, 2, 1) = 1
            life(3, 0, 1) = 0
            order(0, 0) = 2
            order(0, 1) = 1
            order(0, 2) = 3
            tick(1) = 1
            """).states(3, 3, 0, 4).row("waits(0, 0)", 1).row("tick(1)", 2).states(3, 0, 0, 4).rows("""
            about(0, 1) = 1
            about(0, 5) = 2
            waits(0, 0) = 0
            waits(2, 0) = 1
            tick(2) = 4
            """).states(3, 0, 0, 4).row("tick(1)", 5).states(0, 0, 2, 4).row("count(2)", 0).end();
    }

    private static void stopOfOneThatIsWaiting() {
        // 0 becomes WAITING while its JOB waits for 1: then it is DOWN at once, whatever its STOP.
        services("it was WAITING", 3, 0, 9).rows("""
            relation(2, 1, 0) = 1
            life(0, 0, 2) = 0
            again(0, 50, 1, 1) = 1
            order(0, 0) = 1
            order(0, 1) = 1
            order(2, 2) = 3
            tick(8) = 8
            """).states(5, 3, 2).row("about(0, 5)", 2).row("tick(1)", 9).states(0, 0, 2)
            .row("about(0, 1)", 9).row("count(2)", 0).row("tick(50)", 59).states(0, 0, 2).end();
    }

    private static void stopOfOneThatHasWoken() {
        String before = """
            relation(2, 1, 0) = 1
            life(0, 0, 1) = 0
            order(0, 0) = 1
            """;
        services("UP again: STOPPING", 3, 0, 4).rows(before).row("again(0, 2, 1, 1)", 1).row("order(0, 1)", 1)
            .row("order(2, 2)", 3).row("tick(3)", 3).states(2, 3, 2).row("tick(1)", 4).states(3, 0, 2)
            .row("tick(3)", 7).states(3, 0, 2).row("tick(1)", 8).states(0, 0, 2).end();
        story("STARTING again: STOPPING, and this start does not count").rows("""
            make(0, 9, 2) = 0
            make(0, 0, 4) = 1
            make(0, 0, 0) = 2
            """).rows(before).row("again(0, 3, 1, 1)", 1).row("tick(10)", 10).states(5).rows("""
            order(0, 1) = 1
            order(2, 2) = 3
            tick(2) = 12
            """).states(5, 3, 2).row("tick(1)", 13).states(1, 3, 2).row("about(0, 5)", 2)
            .row("tick(1)", 14).states(3, 0, 2).row("about(0, 2)", 1).row("tick(2)", 16).states(0, 0, 2).end();
    }

    private static void startEndsWithGoing() {
        // 1 is STARTING when 0, which it NEEDS, fails: it goes, and its JOB has ended; 2 is BEHIND it.
        story("a start ends when its service is no more STARTING").rows("""
            make(0, 0, 0) = 0
            make(0, 9, 3) = 1
            make(0, 0, 0) = 2
            relation(0, 1, 0) = 1
            relation(2, 2, 1) = 1
            relation(1, 1, 2) = 1
            life(0, 0, 2) = 0
            order(0, 1) = 3
            tick(1) = 1
            """).states(2, 1, 0).row("waits(2, 0)", 1).row("tick(1)", 2).states(4, 3, 2)
            .row("count(2)", 0).row("order(0, 1)", -3).row("tick(2)", 4).states(4, 3, 2)
            .row("tick(1)", 5).states(4, 0, 2).row("about(1, 2)", 0).end();
        story("STOP 0: DOWN at once").rows("""
            make(0, 0, 0) = 0
            make(0, 9, 0) = 1
            relation(0, 1, 0) = 1
            life(0, 0, 2) = 0
            order(0, 1) = 2
            tick(2) = 2
            """).states(4, 0).row("count(2)", 0).row("order(0, 1)", 2).end();
    }

    private static void wakingFails() {
        // 1 is WAITING from 1 on with DELAY 3; what it NEEDS is DOWN, FAILED, WAITING, STARTING or UP at 4.
        String before = """
            relation(0, 1, 0) = 1
            life(1, 0, 1) = 0
            again(1, 3, 1, 1) = 1
            """;
        services("UP", 2, 0, 0).rows(before).row("order(0, 1)", 2).row("tick(4)", 4).states(2, 2).end();
        services("FAILED at the same tick", 2, 0, 0).rows(before).row("life(0, 0, 4)", 0).row("order(0, 1)", 2)
            .row("tick(3)", 3).states(2, 5).row("tick(1)", 4).states(4, 4).row("about(1, 3)", 2)
            .row("about(1, 1)", 4).end();
        services("FAILED one tick later: it goes", 2, 0, 0).rows(before).row("life(0, 0, 5)", 0)
            .row("order(0, 1)", 2).row("tick(4)", 4).states(2, 2).row("tick(1)", 5).states(4, 0).end();
        services("WAITING", 2, 0, 0).rows(before).row("life(0, 0, 2)", 0).row("again(0, 3, 1, 1)", 1)
            .row("order(0, 1)", 2).row("tick(4)", 4).states(5, 4).row("tick(1)", 5).states(2, 4).end();
        story("STARTING, and UP one tick too late").rows("make(0, 1, 0) = 0\nmake(0, 0, 0) = 1\n").rows(before)
            .row("life(0, 0, 2)", 0).row("again(0, 2, 1, 1)", 1).row("order(0, 1)", 2)
            .row("tick(2)", 2).states(2, 5).row("tick(1)", 3).states(5, 5).row("tick(1)", 4).states(5, 5)
            .row("tick(1)", 5).states(1, 4).row("tick(1)", 6).states(2, 4).end();
        services("DOWN: stopped, and with it what waits", 2, 0, 0).rows(before).row("order(0, 1)", 2)
            .row("tick(1)", 1).states(2, 5).row("order(1, 0)", 2).states(0, 0).row("tick(9)", 10).states(0, 0).end();
    }

    private static void wakingBesideOthers() {
        // 0 is WAITING from 3 on, with DELAY 2: only what it NEEDS or is AGAINST can keep it from waking.
        String before = """
            life(0, 0, 1) = 0
            again(0, 2, 1, 1) = 1
            """;
        String waiting = """
            tick(2) = 2
            order(0, 0) = 1
            tick(1) = 3
            """;
        services("AGAINST one that is DOWN", 2, 0, 0).row("relation(3, 0, 1)", 1).rows(before).rows(waiting)
            .states(5, 0).row("tick(2)", 5).states(2, 0).end();
        services("AGAINST one that is FAILED", 2, 0, 0).row("relation(3, 1, 0)", 1).row("life(1, 0, 1)", 0)
            .rows(before).row("order(0, 1)", 1).rows(waiting).states(5, 4).row("tick(2)", 5).states(2, 4).end();
        services("WANTS one that is DOWN, is BEHIND one that is FAILED", 3, 0, 0).row("relation(2, 0, 2)", 1)
            .row("life(2, 0, 1)", 0).row("order(0, 2)", 1).rows(before).rows(waiting)
            .row("relation(1, 0, 1)", 1).states(5, 0, 4).row("tick(2)", 5).states(2, 0, 4).end();
        services("WANTS one that is UP, is BEHIND one that is UP", 3, 0, 0).row("relation(2, 0, 2)", 1)
            .row("relation(1, 0, 1)", 1).row("order(0, 1)", 1).row("order(0, 2)", 1).rows(before).rows(waiting)
            .states(5, 2, 2).row("tick(2)", 5).states(2, 2, 2).end();
        services("one that is UP is BEHIND it, and NEEDS another", 3, 0, 0).row("relation(2, 1, 0)", 1)
            .row("relation(0, 1, 2)", 1).row("order(0, 1)", 2).rows(before).rows(waiting)
            .states(5, 2, 2).row("tick(2)", 5).states(2, 2, 2).end();
    }

    private static void wakingAtTheSameTick() {
        // Both wake at 3: the lesser one is looked at first.
        String both = """
            life(0, 0, 1) = 0
            life(1, 0, 1) = 0
            again(0, 2, 1, 1) = 1
            again(1, 2, 1, 1) = 1
            """;
        services("what the greater one NEEDS is UP in time", 2, 0, 0).rows(both).row("relation(0, 1, 0)", 1)
            .row("order(0, 1)", 2).row("tick(3)", 3).states(2, 2).end();
        services("what the lesser one NEEDS is not UP yet", 2, 0, 0).rows(both).row("relation(0, 0, 1)", 1)
            .row("order(0, 0)", 2).row("tick(3)", 3).states(4, 2).end();
    }

    private static void goingIsOfStartingAndUp() {
        // 0 fails at 3; 1 is UP, 2 STARTING, 3 WAITING, 4 DOWN, and each NEEDS 0.
        story("STARTING and UP go; WAITING and DOWN stay").rows("""
            make(0, 0, 0) = 0
            make(0, 0, 2) = 1
            make(0, 9, 2) = 2
            make(0, 0, 2) = 3
            make(0, 0, 2) = 4
            relation(0, 1, 0) = 1
            relation(0, 2, 0) = 1
            relation(0, 3, 0) = 1
            relation(0, 4, 0) = 1
            life(0, 0, 3) = 0
            life(3, 0, 1) = 0
            again(3, 50, 1, 1) = 1
            order(0, 1) = 2
            order(0, 3) = 1
            tick(1) = 1
            order(0, 2) = 1
            tick(1) = 2
            """).states(2, 2, 1, 5, 0).row("tick(1)", 3).states(4, 3, 3, 5, 0)
            .row("about(1, 3)", 0).row("check()", 0).row("tick(2)", 5).states(4, 0, 0, 5, 0).end();
        services("what NEEDS one that is WAITING goes, too", 2, 0, 0).rows("""
            relation(0, 1, 0) = 1
            life(0, 0, 1) = 0
            again(0, 1, 1, 1) = 1
            order(0, 1) = 2
            tick(1) = 1
            """).states(5, 0).row("tick(1)", 2).states(2, 0).end();
    }

    private static void goingLeastFirst() {
        // 5 fails: 3 goes, then 1, which NEEDS 3 and is the least by then, then 4, then 0 and 2 by way of 4.
        services("the least such at every step", 6, 0, 0).rows("""
            relation(0, 3, 5) = 1
            relation(0, 4, 5) = 1
            relation(0, 1, 3) = 1
            relation(0, 0, 4) = 1
            relation(0, 2, 4) = 1
            life(5, 0, 1) = 0
            order(0, 0) = 3
            order(0, 1) = 2
            order(0, 2) = 1
            tick(1) = 1
            """).changesFrom(6, 1, 5, 4, 1, 3, 0, 1, 1, 0, 1, 4, 0, 1, 0, 0, 1, 2, 0).end();
    }

    private static void turnsOfATick() {
        // In one tick: 4 is UP, 1 fails and 3 goes, 4 reads, and then the JOB of 0 begins and that of 2 falls out.
        story("services, GOING, LETTERS, JOBS").rows("""
            make(2, 0, 0) = 0
            make(0, 0, 0) = 1
            make(2, 0, 0) = 2
            make(2, 0, 0) = 3
            make(2, 2, 0) = 4
            relation(2, 0, 4) = 1
            relation(2, 2, 4) = 1
            relation(0, 2, 1) = 1
            relation(0, 3, 1) = 1
            relation(1, 4, 0) = 1
            relation(1, 4, 2) = 1
            life(1, 0, 2) = 0
            order(0, 3) = 2
            letter(4) = 0
            letter(0) = 1
            letter(2) = 2
            letter(3) = 3
            letter(3) = 4
            tick(1) = 1
            about(3, 7) = 1
            """).states(0, 2, 0, 2, 1).row("tick(1)", 2).states(2, 4, 0, 0, 2).rows("""
            about(4, 7) = 1          # UP before LETTERS were read
            about(0, 7) = 0          # UP after it
            about(3, 7) = 1          # gone before it
            about(2, 7) = 0
            count(2) = 0
            tick(1) = 3
            about(0, 7) = 1
            """).changesFrom(3, 2, 1, 4, 2, 4, 2, 2, 3, 0, 2, 0, 2).end();
    }
}
