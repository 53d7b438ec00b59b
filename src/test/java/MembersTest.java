/** Who gets a JOB by an order, at the edges: members, what is wanted, what is AGAINST, what NEEDS what is stopped. */
public final class MembersTest {
    private static final Checks CHECKS = new Checks("MembersTest");

    public static void main(String[] args) {
        membersByNeeds();
        leastWantedFirst();
        wantedThatClashes();
        wantedThatRings();
        wantedWithWhatItNeeds();
        wantedOfAWaitingRing();
        startOfEachState();
        startOfOneThatIsWaiting();
        startStopsWhatIsAgainst();
        startStopsWhatNeedsTheStopped();
        isolateOfEachState();
        stopOfEachState();
        stopWithWhatNeedsIt();
        CHECKS.end();
    }

    private static Story story(String name) {
        return new Story(CHECKS, name);
    }

    private static Story services(String name, int n, int start, int stop) {
        Story story = story(name);
        for (int s = 0; s < n; s++) {
            story.row("make(0, " + start + ", " + stop + ")", s);
        }
        return story;
    }

    private static void membersByNeeds() {
        services("x and whatever a member NEEDS, no more", 6, 0, 0).rows("""
            relation(0, 2, 1) = 1
            relation(0, 1, 4) = 1
            relation(0, 3, 2) = 1
            relation(2, 2, 0) = 1
            relation(2, 4, 5) = 1
            order(0, 2) = 3
            """).states(0, 2, 2, 0, 2, 0).row("order(0, 2)", 0).row("order(0, 3)", 1).end();
    }

    private static void leastWantedFirst() {
        // 1 and 2 are AGAINST each other: the one that is looked at first comes.
        services("the least is looked at first", 4, 0, 0).rows("""
            relation(1, 3, 2) = 1
            relation(1, 3, 1) = 1
            relation(3, 1, 2) = 1
            order(0, 3) = 2
            """).states(0, 2, 0, 2).end();
        services("one that a new member WANTS may be less", 5, 0, 0).rows("""
            relation(1, 4, 1) = 1
            relation(1, 4, 3) = 1
            relation(1, 1, 0) = 1
            relation(3, 0, 3) = 1
            order(0, 4) = 3
            """).states(2, 2, 0, 0, 2).end();
        services("one that a new member WANTS may be greater", 5, 0, 0).rows("""
            relation(1, 0, 2) = 1
            relation(1, 0, 1) = 1
            relation(1, 1, 3) = 1
            relation(3, 2, 3) = 1
            order(0, 0) = 3
            """).states(2, 2, 2, 0, 0).end();
        services("what is left out WANTS nothing", 5, 0, 0).rows("""
            relation(1, 0, 1) = 1
            relation(3, 0, 1) = 1
            relation(1, 1, 2) = 1
            relation(1, 0, 3) = 1
            relation(1, 3, 4) = 1
            order(0, 0) = 3
            """).states(2, 0, 0, 2, 2).end();
        services("what x does not want, but what it NEEDS wants", 3, 0, 0).rows("""
            relation(0, 0, 1) = 1
            relation(1, 1, 2) = 1
            order(0, 0) = 3
            """).states(2, 2, 2).end();
    }

    private static void wantedThatClashes() {
        services("AGAINST a member by way of what it NEEDS: nothing of it", 5, 0, 0).rows("""
            relation(1, 0, 1) = 1
            relation(0, 1, 2) = 1
            relation(0, 2, 3) = 1
            relation(3, 3, 0) = 1
            order(0, 0) = 1
            """).states(2, 0, 0, 0, 0).end();
        services("two of what it NEEDS are AGAINST each other", 5, 0, 0).rows("""
            relation(1, 0, 1) = 1
            relation(0, 1, 2) = 1
            relation(0, 1, 3) = 1
            relation(3, 2, 3) = 1
            order(0, 0) = 1
            """).states(2, 0, 0, 0, 0).end();
        services("AGAINST one that is no member: that one is stopped", 3, 0, 0).rows("""
            relation(1, 0, 1) = 1
            relation(3, 1, 2) = 1
            order(0, 2) = 1
            order(0, 0) = 3
            """).states(2, 2, 0).end();
        services("UP, and AGAINST a member: left out, and stopped", 2, 0, 0).rows("""
            relation(1, 0, 1) = 1
            relation(3, 1, 0) = 1
            order(0, 1) = 1
            order(0, 0) = 2
            """).states(2, 0).end();
    }

    private static void wantedThatRings() {
        services("it would RING with a member", 3, 0, 0).rows("""
            relation(1, 0, 1) = 1
            relation(2, 0, 1) = 1
            relation(2, 1, 0) = 1
            relation(1, 0, 2) = 1
            order(0, 0) = 2
            ring() = 0               # an order that is not refused tells of no ring
            """).states(2, 0, 2).end();
        services("a ring without a member", 4, 0, 0).rows("""
            relation(1, 0, 1) = 1
            relation(0, 1, 2) = 1
            relation(0, 2, 1) = 1
            relation(1, 0, 3) = 1
            order(0, 0) = 2
            """).states(2, 0, 0, 2).end();
        services("BEHIND one that is no member: no ring", 3, 0, 0).rows("""
            relation(1, 0, 1) = 1
            relation(2, 1, 2) = 1
            relation(2, 2, 1) = 1
            order(0, 0) = 2
            """).states(2, 2, 0).end();
        services("a member that is UP is in no ring", 2, 0, 0).rows("""
            order(0, 0) = 1
            relation(1, 0, 1) = 1
            relation(2, 0, 1) = 1
            relation(2, 1, 0) = 1
            order(0, 0) = 1
            """).states(2, 2).end();
        services("a wanted one that is UP is in no ring", 2, 0, 0).rows("""
            order(0, 1) = 1
            relation(1, 0, 1) = 1
            relation(2, 0, 1) = 1
            relation(2, 1, 0) = 1
            order(0, 0) = 1
            """).states(2, 2).end();
    }

    private static void wantedWithWhatItNeeds() {
        services("what it NEEDS comes with it, and is waited for", 3, 1, 0).rows("""
            relation(1, 0, 2) = 1
            relation(0, 2, 1) = 1
            order(0, 0) = 3
            waits(2, 0) = 1
            waits(0, 0) = 0          # WANTS is not waited for
            """).states(1, 1, 0).rows("""
            tick(1) = 1
            """).states(2, 2, 1).row("tick(1)", 2).states(2, 2, 2).end();
        services("a wanted one that fails does no harm", 2, 0, 0).rows("""
            relation(1, 0, 1) = 1
            life(1, 0, 1) = 0
            order(0, 0) = 2
            tick(1) = 1
            """).states(2, 4).end();
        services("it keeps what is wanted from being stopped by ISOLATE", 3, 0, 0).rows("""
            order(0, 1) = 1
            order(0, 2) = 1
            relation(1, 0, 1) = 1
            order(2, 0) = 2
            """).states(2, 2, 0).end();
    }

    private static void wantedOfAWaitingRing() {
        services("a WAITING one is not UP: it would RING", 3, 0, 0).rows("""
            life(0, 0, 1) = 0
            again(0, 50, 1, 1) = 1
            order(0, 0) = 1
            tick(1) = 1
            relation(1, 0, 1) = 1
            relation(2, 0, 1) = 1
            relation(2, 1, 0) = 1
            order(0, 0) = 1
            """).states(2, 0, 0).end();
    }

    /** 0 DOWN, 1 UP, 2 FAILED, 3 WAITING, and nothing else to do: the four STATES in which an order can find them. */
    private static Story inFourStates(String name) {
        return services(name, 5, 0, 3).rows("""
            life(2, 0, 1) = 0
            life(3, 0, 1) = 0
            again(3, 50, 1, 1) = 1
            order(0, 1) = 1
            order(0, 2) = 1
            order(0, 3) = 1
            tick(1) = 1
            """).states(0, 2, 4, 5, 0);
    }

    private static void startOfEachState() {
        inFourStates("START of one that is DOWN").row("order(0, 0)", 1).states(2, 2, 4, 5, 0).end();
        inFourStates("START of one that is UP").row("order(0, 1)", 0).states(0, 2, 4, 5, 0).end();
        inFourStates("START of one that is FAILED").row("order(0, 2)", 1).states(0, 2, 2, 5, 0).end();
        inFourStates("START of one that is WAITING").row("order(0, 3)", 1).states(0, 2, 4, 2, 0).end();
        inFourStates("START of one that NEEDS them").rows("""
            relation(0, 4, 0) = 1
            relation(0, 4, 2) = 1
            order(0, 4) = 3
            """).states(2, 2, 2, 5, 2).end();
        inFourStates("START of one that WANTS them all").rows("""
            relation(1, 4, 0) = 1
            relation(1, 4, 1) = 1
            relation(1, 4, 2) = 1
            relation(1, 4, 3) = 1
            order(0, 4) = 4
            """).states(2, 2, 2, 2, 2).end();
    }

    private static void startOfOneThatIsWaiting() {
        services("it is DOWN from now, before any JOB begins", 3, 0, 0).rows("""
            life(0, 0, 1) = 0
            life(2, 0, 1) = 0
            again(0, 50, 1, 1) = 1
            again(2, 50, 1, 1) = 1
            order(0, 0) = 1
            order(0, 2) = 1
            tick(1) = 1
            relation(1, 1, 0) = 1
            relation(1, 1, 2) = 1
            plan(0, 1) = 3
            changes() = 4            # a PLAN ends no waiting
            order(0, 1) = 3
            """).changesFrom(4, 1, 0, 0, 1, 2, 0, 1, 0, 2, 1, 1, 2, 1, 2, 2).end();
        services("its waiting ends, also if its JOB has to wait", 2, 3, 0).rows("""
            life(0, 0, 1) = 0
            again(0, 2, 1, 1) = 1
            order(0, 0) = 1
            tick(4) = 4
            relation(2, 0, 1) = 1
            relation(1, 0, 1) = 1
            order(0, 0) = 2
            """).states(0, 1).row("tick(2)", 6).states(0, 1).row("tick(1)", 7).states(1, 2)
            .row("about(0, 3)", 1).end();
        services("a refused order ends no waiting", 3, 0, 0).rows("""
            life(0, 0, 1) = 0
            again(0, 50, 1, 1) = 1
            relation(0, 1, 2) = 1
            relation(3, 1, 2) = 1
            relation(0, 1, 0) = 1
            order(0, 0) = 1
            tick(1) = 1
            order(0, 1) = -4
            plan(0, 0) = 1
            about(0, 0) = 5
            """).end();
    }

    private static void startStopsWhatIsAgainst() {
        services("those that are UP or WAITING, not those that are DOWN or FAILED", 5, 0, 3).rows("""
            relation(3, 4, 0) = 1
            relation(3, 1, 4) = 1
            relation(3, 4, 2) = 1
            relation(3, 3, 4) = 1
            life(2, 0, 1) = 0
            life(3, 0, 1) = 0
            again(3, 50, 1, 1) = 1
            order(0, 1) = 1
            order(0, 2) = 1
            order(0, 3) = 1
            tick(1) = 1
            """).states(0, 2, 4, 5, 0).rows("""
            order(0, 4) = 3
            about(0, 5) = 0
            about(1, 5) = 2
            about(2, 5) = 0
            about(3, 5) = 0          # WAITING: DOWN at once
            about(4, 5) = 1
            waits(4, 0) = 1
            """).states(0, 3, 4, 0, 0).row("tick(3)", 4).states(0, 0, 4, 0, 2).end();
        services("AGAINST what x NEEDS, and what it WANTS", 5, 0, 0).rows("""
            relation(0, 0, 1) = 1
            relation(1, 0, 2) = 1
            relation(3, 1, 3) = 1
            relation(3, 2, 4) = 1
            order(0, 3) = 1
            order(0, 4) = 1
            order(0, 0) = 5
            """).states(2, 2, 2, 0, 0).end();
        services("AGAINST a member that is UP already: none is", 3, 0, 0).rows("""
            relation(3, 0, 1) = 1
            order(0, 0) = 1
            order(0, 0) = 0
            order(0, 2) = 1
            """).states(2, 0, 2).end();
    }

    private static void startStopsWhatNeedsTheStopped() {
        services("what NEEDS one that gets a stop JOB, and so on", 6, 0, 1).rows("""
            relation(3, 0, 1) = 1
            relation(0, 2, 1) = 1
            relation(0, 3, 2) = 1
            relation(1, 4, 1) = 1
            relation(2, 5, 1) = 1
            life(3, 0, 1) = 0
            again(3, 50, 1, 1) = 1
            order(0, 3) = 3
            order(0, 4) = 1
            order(0, 5) = 1
            tick(1) = 1
            """).states(0, 2, 2, 5, 2, 2).rows("""
            order(0, 0) = 4
            """).states(0, 2, 3, 0, 2, 2).row("tick(2)", 3).states(2, 0, 0, 0, 2, 2).end();
    }

    private static void isolateOfEachState() {
        inFourStates("ISOLATE of another").row("order(2, 4)", 3).states(0, 3, 4, 0, 2)
            .row("tick(3)", 4).states(0, 0, 4, 0, 2).end();
        inFourStates("ISOLATE of one that is DOWN").row("order(2, 0)", 3).states(2, 3, 4, 0, 0).end();
        inFourStates("ISOLATE of one that is UP").row("order(2, 1)", 1).states(0, 2, 4, 0, 0).end();
        inFourStates("ISOLATE of one that is FAILED").row("order(2, 2)", 3).states(0, 3, 2, 0, 0).end();
        inFourStates("ISOLATE of one that is WAITING").row("order(2, 3)", 2).states(0, 3, 4, 2, 0).end();
        services("ISOLATE of one that is alone", 1, 0, 0).rows("""
            order(2, 0) = 1
            order(2, 0) = 0
            order(1, 0) = 1
            order(1, 0) = 0
            """).end();
    }

    private static void stopOfEachState() {
        inFourStates("STOP of one that is DOWN").row("order(1, 0)", 0).states(0, 2, 4, 5, 0).end();
        inFourStates("STOP of one that is UP").row("order(1, 1)", 1).states(0, 3, 4, 5, 0).end();
        inFourStates("STOP of one that is FAILED").row("order(1, 2)", 0).states(0, 2, 4, 5, 0).end();
        inFourStates("STOP of one that is WAITING").row("order(1, 3)", 1).states(0, 2, 4, 0, 0)
            .row("count(2)", 0).row("tick(50)", 51).states(0, 2, 4, 0, 0).end();
    }

    private static void stopWithWhatNeedsIt() {
        services("what NEEDS x is stopped, though x has no JOB", 4, 0, 2).rows("""
            relation(0, 1, 0) = 1
            relation(0, 2, 1) = 1
            relation(1, 3, 0) = 1
            life(0, 0, 2) = 0
            life(1, 0, 1) = 0
            again(1, 50, 1, 1) = 1
            order(0, 1) = 2
            order(0, 3) = 1
            tick(2) = 2
            """).states(4, 5, 0, 2).row("order(1, 0)", 1).states(4, 0, 0, 2).end();
        services("not what NEEDS only one that gets no JOB", 3, 0, 2).rows("""
            relation(0, 1, 0) = 1
            relation(0, 2, 1) = 1
            life(0, 0, 2) = 0
            life(2, 0, 1) = 0
            again(2, 50, 1, 1) = 1
            order(0, 2) = 3
            tick(4) = 4
            """).states(4, 0, 5).row("order(1, 0)", 0).states(4, 0, 5).row("order(1, 1)", 1).states(4, 0, 0).end();
        services("what x NEEDS, WANTS or is BEHIND stays", 4, 0, 0).rows("""
            relation(0, 0, 1) = 1
            relation(1, 0, 2) = 1
            relation(2, 0, 3) = 1
            order(0, 0) = 3
            order(0, 3) = 1
            order(1, 0) = 1
            """).states(0, 2, 2, 2).end();
    }
}
