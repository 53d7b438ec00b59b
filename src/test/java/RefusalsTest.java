/** Each way in which a call is refused, which comes first where several would refuse, and that nothing changes. */
public final class RefusalsTest {
    private static final Checks CHECKS = new Checks("RefusalsTest");
    private static final String[] STATES = {"DOWN", "STARTING", "UP", "STOPPING", "FAILED", "WAITING"};

    public static void main(String[] args) {
        kindOfLife();
        kindOfLetter();
        aIsB();
        busyWithJobs();
        busyUntilTheLastJobEnds();
        busyWithoutJobs();
        notBusy();
        clashOfRelations();
        clashOfRelationsToldAlready();
        clashOfMembers();
        clashIsNotOfWhatIsWantedOrStopped();
        ringOfMembers();
        ringOfMembersThatAreNotUp();
        ringOfJobs();
        busyFirst();
        clashBeforeRing();
        ringOfMembersBeforeRingOfJobs();
        latestRing();
        CHECKS.end();
    }

    private static Story story(String name) {
        return new Story(CHECKS, name);
    }

    private static void kindOfLife() {
        story("LIFE of a GROUP").rows("""
            make(3, 0, 0) = 0
            make(0, 0, 0) = 1
            make(1, 0, 0) = 2
            make(2, 0, 0) = 3
            life(0, 0, 0) = -2
            life(0, 7, 1000) = -2
            life(0, 8, 0) = -1       # NONE is before KIND
            life(0, -1, 0) = -1
            life(0, 0, 1001) = -1
            life(0, 0, -1) = -1
            life(4, 0, 0) = -1
            life(1, 0, 1) = 0
            life(2, 0, 1) = 0
            life(3, 0, 1) = 0
            again(0, 1, 1, 1) = 1    # again() is of every KIND
            again(1, 1, 1, 1) = 1
            again(2, 1, 1, 1) = 1
            again(3, 1, 1, 1) = 1
            """).end();
    }

    private static void kindOfLetter() {
        story("LETTERS to other KINDS").rows("""
            make(0, 0, 0) = 0
            make(1, 0, 0) = 1
            make(2, 0, 0) = 2
            make(3, 0, 0) = 3
            letter(0) = -2
            letter(1) = -2
            letter(3) = -2
            letter(4) = -1
            order(0, 0) = 1
            letter(0) = -2           # UP or not
            letter(2) = 0            # the refused ones have no numbers
            count(4) = 1
            """).end();
    }

    private static void aIsB() {
        Story story = story("one to itself").rows("make(0, 1, 1) = 0\nmake(0, 1, 1) = 1\n");
        for (int how = 0; how <= 3; how++) {
            story.row("relation(" + how + ", 0, 0)", -1).row("undo(" + how + ", 1, 1)", -1);
            story.row("related(" + how + ", 0, 0)", -1).row("related(" + how + ", 0, 1)", 0);
        }
        story.row("order(0, 0)", 1).row("relation(0, 0, 0)", -1).row("undo(1, 0, 0)", -1).row("count(1)", 0).end();
    }

    private static void busyWithJobs() {
        Story story = story("there are JOBS").rows("""
            make(0, 2, 2) = 0
            make(0, 0, 0) = 1
            make(2, 0, 0) = 2
            relation(1, 1, 2) = 1
            order(0, 0) = 1
            """);
        allBusy(story);
        story.rows("""
            tick(1) = 1
            count(2) = 1
            """);
        allBusy(story);
        story.rows("""
            make(0, 0, 0) = 3         # these calls are never BUSY
            life(0, 0, 9) = 0
            again(0, 1, 1, 1) = 1
            letter(2) = 0
            related(1, 1, 2) = 1
            waits(0, 0) = 0
            tick(1) = 2
            count(2) = 0
            order(1, 0) = 1
            """);
        allBusy(story);
        story.rows("""
            tick(2) = 4
            undo(1, 1, 2) = 1
            relation(0, 1, 2) = 1
            order(0, 1) = 2
            """).end();
    }

    /** All that is BUSY, and that a number that is not as said is NONE even then. */
    private static void allBusy(Story story) {
        for (int how = 0; how <= 2; how++) {
            story.row("order(" + how + ", 1)", -3).row("plan(" + how + ", 1)", -3);
            story.row("order(" + how + ", 9)", -1).row("plan(" + how + ", -1)", -1);
        }
        for (int how = 0; how <= 3; how++) {
            story.row("relation(" + how + ", 1, 2)", -3).row("undo(" + how + ", 1, 2)", -3);
            story.row("relation(" + how + ", 1, 1)", -1).row("undo(" + how + ", 9, 2)", -1);
        }
        story.row("order(3, 1)", -1).row("order(-1, 1)", -1).row("plan(3, 1)", -1).row("plan(-1, 1)", -1);
        story.row("relation(4, 1, 2)", -1).row("undo(-1, 1, 2)", -1);
    }

    private static void busyUntilTheLastJobEnds() {
        story("two JOBS one after the other").rows("""
            make(0, 1, 0) = 0
            make(0, 2, 0) = 1
            relation(0, 1, 0) = 1
            order(0, 1) = 2
            tick(1) = 1
            order(1, 0) = -3      # 0 is UP, but 1 is not
            tick(1) = 2
            order(1, 0) = -3
            tick(1) = 3
            order(1, 0) = 2
            order(0, 0) = 1
            """).end();
    }

    private static void busyWithoutJobs() {
        story("one is STARTING by itself").rows("""
            make(0, 2, 0) = 0
            make(0, 0, 0) = 1
            life(0, 0, 1) = 0
            again(0, 1, 1, 1) = 1
            order(0, 0) = 1
            tick(3) = 3
            about(0, 0) = 5
            plan(0, 1) = 1            # WAITING is not BUSY
            tick(1) = 4
            about(0, 0) = 1
            count(2) = 0
            order(0, 1) = -3
            order(1, 1) = -3
            order(2, 1) = -3
            plan(0, 1) = -3
            plan(1, 1) = -3
            plan(2, 1) = -3
            relation(1, 0, 1) = 1     # BUSY of relation() is of JOBS alone
            undo(1, 0, 1) = 1
            tick(1) = 5
            order(0, 1) = -3
            tick(1) = 6
            about(0, 0) = 2
            order(0, 1) = 1
            """).end();
        story("one is STOPPING by itself").rows("""
            make(0, 0, 0) = 0
            make(0, 0, 2) = 1
            make(0, 0, 0) = 2
            relation(0, 1, 0) = 1
            life(0, 0, 1) = 0
            order(0, 1) = 2
            tick(1) = 1
            about(1, 0) = 3
            count(2) = 0
            order(0, 2) = -3
            order(1, 2) = -3
            order(2, 2) = -3
            plan(0, 2) = -3
            relation(2, 1, 2) = 1
            undo(0, 1, 0) = 1
            tick(1) = 2
            order(0, 2) = -3
            tick(1) = 3
            about(1, 0) = 0
            order(0, 2) = 1
            """).end();
    }

    private static void notBusy() {
        story("DOWN, UP, FAILED and WAITING are not BUSY").rows("""
            make(0, 0, 0) = 0
            make(0, 0, 0) = 1
            make(0, 0, 0) = 2
            make(0, 0, 0) = 3
            life(2, 0, 1) = 0
            life(3, 0, 1) = 0
            again(3, 50, 1, 1) = 1
            order(0, 1) = 1
            order(0, 2) = 1
            order(0, 3) = 1
            tick(1) = 1
            in(0) = 1
            in(2) = 1
            in(4) = 1
            in(5) = 1
            order(1, 0) = 0
            order(0, 1) = 0
            order(0, 2) = 1
            order(0, 3) = 1
            """).end();
    }

    /** Service s is in STATE s, and 6 is DOWN, without JOBS: 1 is STARTING again, 3 goes as 4 FAILED. */
    private static Story inEachState(String name) {
        return story(name).rows("""
            make(0, 0, 0) = 0
            make(0, 9, 0) = 1
            make(0, 0, 0) = 2
            make(0, 0, 9) = 3
            make(0, 0, 0) = 4
            make(0, 0, 0) = 5
            make(0, 0, 0) = 6
            relation(0, 3, 4) = 1
            relation(3, 4, 6) = 1
            relation(3, 5, 6) = 1
            life(1, 0, 1) = 0
            again(1, 1, 1, 1) = 1
            life(4, 0, 2) = 0
            life(5, 0, 1) = 0
            again(5, 50, 1, 1) = 1
            order(0, 1) = 1
            tick(9) = 9
            order(0, 2) = 1
            order(0, 3) = 2
            order(0, 5) = 1
            tick(2) = 11
            count(2) = 0
            """).states(0, 1, 2, 3, 4, 5, 0);
    }

    private static void clashOfRelations() {
        for (int how = 0; how <= 3; how++) {
            for (int a = 0; a < 6; a++) {
                for (int b : new int[] {0, 6}) {
                    if (a == b) {
                        continue;
                    }
                    boolean told = how == 3 && (a == 4 || a == 5) && b == 6;
                    boolean clash = (how == 0 || how == 3) && a != 0 && a != 4;
                    int want = clash ? -4 : told ? 0 : 1;
                    inEachState(STATES[a] + " to DOWN").row("relation(" + how + ", " + a + ", " + b + ")", want).end();
                    inEachState("DOWN to " + STATES[a]).row("relation(" + how + ", " + b + ", " + a + ")", want).end();
                }
            }
        }
        // FAILED on both sides, and two that are not as said.
        inEachState("FAILED and DOWN").row("relation(0, 4, 0)", 1).row("relation(0, 0, 4)", 1).end();
        inEachState("UP and WAITING").row("relation(0, 2, 5)", -4).row("relation(3, 5, 2)", -4).end();
    }

    private static void clashOfRelationsToldAlready() {
        inEachState("CLASH is asked also if it is told already").rows("""
            relation(0, 3, 4) = -4    # 3 is STOPPING
            relation(3, 5, 6) = -4    # 5 is WAITING
            relation(3, 6, 5) = -4
            relation(3, 4, 6) = 0     # FAILED and DOWN
            relation(3, 6, 4) = 0
            related(0, 3, 4) = 1
            undo(0, 3, 4) = 1         # undo() knows no CLASH
            undo(3, 5, 6) = 1
            undo(3, 5, 2) = 0
            """).end();
    }

    private static void clashOfMembers() {
        story("members AGAINST each other").rows("""
            make(0, 1, 1) = 0
            make(0, 1, 1) = 1
            make(0, 1, 1) = 2
            make(0, 1, 1) = 3
            make(0, 1, 1) = 4
            relation(0, 0, 1) = 1
            relation(0, 1, 2) = 1
            relation(0, 0, 3) = 1
            relation(3, 3, 2) = 1
            order(0, 0) = -4         # 3 and 2, which it NEEDS by way of 1
            order(2, 0) = -4
            plan(0, 0) = -4
            plan(2, 0) = -4
            order(1, 0) = 0          # STOP has no members
            plan(1, 0) = 0
            order(0, 1) = 2          # 1 and 2 without 3
            tick(2) = 2
            order(0, 0) = -4         # though 1 and 2 are UP
            order(0, 3) = 3          # 3 alone, which stops 2 and 1
            tick(9) = 11
            undo(3, 2, 3) = 1
            order(0, 0) = 3
            """).end();
        story("x itself").rows("""
            make(0, 1, 1) = 0
            make(0, 1, 1) = 1
            relation(0, 0, 1) = 1
            relation(3, 1, 0) = 1
            order(0, 0) = -4
            order(2, 0) = -4
            order(0, 1) = 1
            tick(1) = 1
            order(0, 0) = -4
            order(1, 1) = 1
            """).end();
    }

    private static void clashIsNotOfWhatIsWantedOrStopped() {
        story("no CLASH of what is only wanted, or BEHIND").rows("""
            make(0, 0, 0) = 0
            make(0, 0, 0) = 1
            make(0, 0, 0) = 2
            relation(1, 0, 1) = 1
            relation(3, 0, 1) = 1
            relation(2, 0, 2) = 1
            relation(3, 0, 2) = 1
            order(0, 0) = 1
            order(0, 1) = 2
            order(0, 0) = 2
            order(2, 2) = 2
            order(1, 2) = 1
            """).end();
    }

    private static void ringOfMembers() {
        story("the shortest ring that there can be").rows("""
            make(0, 1, 1) = 0
            make(0, 1, 1) = 1
            make(0, 1, 1) = 2
            relation(0, 0, 1) = 1
            relation(2, 1, 0) = 1
            order(0, 0) = -5
            ring() = 2
            plan(2, 0) = -5
            order(1, 0) = 0           # STOP has no members
            order(0, 1) = 1           # 1 alone: 0 is no member
            tick(1) = 1
            order(1, 1) = 1
            tick(1) = 2
            relation(0, 2, 0) = 1
            order(0, 2) = -5          # x is in no ring, but what it NEEDS is
            ring() = 2
            undo(2, 1, 0) = 1
            order(0, 2) = 3
            """).end();
        story("WANTS and AGAINST make no ring").rows("""
            make(0, 0, 0) = 0
            make(0, 0, 0) = 1
            make(0, 0, 0) = 2
            relation(1, 0, 1) = 1
            relation(1, 1, 0) = 1
            relation(0, 0, 1) = 1
            relation(3, 0, 2) = 1
            order(0, 0) = 2
            order(0, 2) = 2
            ring() = 0
            """).end();
    }

    private static void ringOfMembersThatAreNotUp() {
        // 0 and 1 are BEHIND each other: a ring, unless one of them is UP. WAITING and FAILED are not UP.
        String both = """
            make(0, 0, 0) = 0
            make(0, 0, 0) = 1
            relation(0, 0, 1) = 1
            relation(2, 1, 0) = 1
            life(1, 0, 2) = 0
            """;
        story("both are DOWN").rows(both).row("order(0, 0)", -5).row("ring()", 2).end();
        story("one is UP").rows(both).row("order(0, 1)", 1).row("tick(1)", 1).row("order(0, 0)", 1).states(2, 2).end();
        story("one is FAILED").rows(both).row("order(0, 1)", 1).row("tick(2)", 2).states(0, 4)
            .row("order(0, 0)", -5).row("plan(0, 0)", -5).end();
        story("one is WAITING").rows(both).row("again(1, 9, 1, 1)", 1).row("order(0, 1)", 1).row("tick(2)", 2)
            .states(0, 5).row("order(0, 0)", -5).row("ring()", 2).row("plan(2, 0)", -5)
            .row("tick(9)", 11).states(0, 2).row("order(0, 0)", 1).end();
    }

    private static void ringOfJobs() {
        story("two to stop, each BEHIND the other").rows("""
            make(0, 0, 1) = 0
            make(0, 0, 1) = 1
            make(0, 0, 1) = 2
            order(0, 0) = 1
            order(0, 1) = 1
            relation(2, 0, 1) = 1
            relation(2, 1, 0) = 1
            order(2, 2) = -5
            ring() = 2
            plan(2, 2) = -5
            order(0, 0) = 0          # both are UP
            order(1, 0) = 1          # one alone
            tick(1) = 1
            order(2, 2) = 2
            """).end();
        story("one NEEDS the other, which is BEHIND it").rows("""
            make(0, 0, 1) = 0
            make(0, 0, 1) = 1
            relation(0, 0, 1) = 1
            order(0, 0) = 2
            relation(2, 1, 0) = 1
            order(1, 1) = -5
            plan(1, 1) = -5
            ring() = 2
            order(1, 0) = 1
            tick(1) = 1
            order(1, 1) = 1
            """).end();
    }

    private static void busyFirst() {
        story("BUSY is before CLASH and RING").rows("""
            make(0, 1, 1) = 0
            make(0, 1, 1) = 1
            make(0, 1, 1) = 2
            make(0, 1, 1) = 3
            make(0, 1, 1) = 4
            relation(0, 0, 1) = 1
            relation(3, 0, 1) = 1
            relation(0, 2, 3) = 1
            relation(0, 3, 2) = 1
            order(0, 0) = -4
            order(0, 2) = -5
            ring() = 2
            order(0, 4) = 1
            order(0, 0) = -3
            order(0, 2) = -3
            plan(0, 0) = -3
            plan(2, 2) = -3
            tick(1) = 1
            order(0, 0) = -4
            plan(2, 2) = -5
            """).end();
    }

    private static void clashBeforeRing() {
        story("CLASH of members is before RING of members").rows("""
            make(0, 1, 1) = 0
            make(0, 1, 1) = 1
            make(0, 1, 1) = 2
            relation(0, 0, 1) = 1
            relation(0, 1, 0) = 1
            relation(0, 0, 2) = 1
            relation(3, 1, 2) = 1
            order(0, 0) = -4
            plan(2, 0) = -4
            ring() = 0
            undo(3, 1, 2) = 1
            order(0, 0) = -5
            ring() = 2
            """).end();
        story("CLASH of members is before RING of JOBS").rows("""
            make(0, 0, 1) = 0
            make(0, 0, 1) = 1
            make(0, 0, 1) = 2
            make(0, 0, 1) = 3
            relation(0, 2, 3) = 1
            relation(3, 2, 3) = 1
            order(0, 0) = 1
            order(0, 1) = 1
            relation(2, 0, 1) = 1
            relation(2, 1, 0) = 1
            order(2, 2) = -4
            plan(2, 2) = -4
            ring() = 0
            order(2, 3) = -5
            ring() = 2
            """).end();
    }

    private static void ringOfMembersBeforeRingOfJobs() {
        story("RING of members is before RING of all JOBS").rows("""
            make(0, 0, 1) = 0
            make(0, 0, 1) = 1
            make(0, 0, 1) = 2
            make(0, 0, 1) = 3
            make(0, 0, 1) = 4
            relation(0, 2, 3) = 1
            relation(0, 3, 4) = 1
            relation(0, 4, 2) = 1
            order(0, 0) = 1
            order(0, 1) = 1
            relation(2, 0, 1) = 1
            relation(2, 1, 0) = 1
            order(2, 2) = -5
            ring() = 3               # that of 2, 3, 4
            undo(0, 4, 2) = 1
            plan(2, 2) = -5
            ring() = 2               # that of 0 and 1
            undo(2, 1, 0) = 1
            order(2, 2) = 5
            """).end();
    }

    private static void latestRing() {
        story("the latest that was refused with RING").rows("""
            make(0, 0, 0) = 0
            make(0, 0, 0) = 1
            make(0, 0, 0) = 2
            make(2, 9, 0) = 3
            make(2, 9, 0) = 4
            relation(0, 0, 1) = 1
            relation(0, 1, 2) = 1
            relation(0, 2, 0) = 1
            relation(0, 3, 4) = 1
            relation(0, 4, 3) = 1
            order(0, 0) = -5
            ring() = 3
            plan(0, 3) = -5
            ring() = 2
            plan(0, 1) = -5
            ring() = 3
            order(0, 3) = -5
            ring() = 2
            order(0, 5) = -1         # refused otherwise: it stays
            order(3, 0) = -1
            undo(0, 2, 0) = 1
            order(0, 0) = 3
            ring() = 2
            plan(1, 2) = 3
            ring() = 2
            undo(0, 4, 3) = 1
            order(0, 3) = 2
            order(0, 3) = -3
            ring() = 2
            """).end();
        story("a LETTER's START is no order() and no plan()").rows("""
            make(2, 0, 0) = 0
            make(0, 0, 0) = 1
            relation(0, 0, 1) = 1
            relation(0, 1, 0) = 1
            letter(0) = 0
            ring() = 0
            order(0, 0) = -5
            ring() = 2
            """).end();
    }
}
