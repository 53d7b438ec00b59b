/** What is full: the last one that there is room for, the first that is refused, and that a refused one left nothing. */
public final class FullTest {
    private static final Checks CHECKS = new Checks("FullTest");

    public static void main(String[] args) {
        services();
        relations();
        relationsOfWhichSomeAreAgainst();
        relationsRefusedOtherwise();
        letters();
        lettersRoundTheDoor();
        lettersToOneThatIsDown();
        lettersOfManyDoors();
        jobs();
        shortestRings();
        history();
        historyRoundAndRound();
        CHECKS.end();
    }

    private static Story story(String name) {
        return new Story(CHECKS, name);
    }

    private static Story withServices(String name, int n, String kindAndTimes) {
        Story story = story(name);
        for (int s = 0; s < n; s++) {
            story.row("make(" + kindAndTimes + ")", s);
        }
        return story;
    }

    private static void services() {
        Story story = withServices("40 services", 39, "0, 0, 0");
        story.row("count(0)", 39).row("about(39, 0)", -1);
        story.row("make(2, 0, 0)", 39).row("count(0)", 40);
        for (int kind = 0; kind <= 3; kind++) {
            story.row("make(" + kind + ", 0, 0)", -6);
        }
        story.rows("""
            make(0, 50, 50) = -6
            make(0, 51, 0) = -1    # NONE is before FULL
            make(4, 0, 0) = -1
            make(3, 0, 1) = -1
            count(0) = 40
            in(0) = 40
            about(39, 0) = 0
            about(40, 0) = -1
            letter(39) = 0
            about(39, 0) = 2
            order(2, 39) = 0
            make(0, 0, 0) = -6     # none ever goes
            """).end();
    }

    /** 399 RELATIONS: every service of 21 WANTS every other, but for the last. */
    private static Story almostFull(String name) {
        Story story = withServices(name, 21, "0, 1, 1");
        int told = 0;
        for (int a = 0; a < 20; a++) {
            for (int b = 0; b < 21; b++) {
                if (a != b && told < 399) {
                    story.row("relation(1, " + a + ", " + b + ")", 1);
                    told++;
                }
            }
        }
        return story.row("count(1)", 399);
    }

    private static void relations() {
        almostFull("400 RELATIONS").rows("""
            relation(2, 0, 20) = 1    # the 400th
            count(1) = 400
            relation(0, 20, 0) = -6
            relation(1, 20, 0) = -6
            relation(2, 20, 0) = -6
            relation(3, 20, 0) = -6
            count(1) = 400
            related(0, 20, 0) = 0
            related(3, 0, 20) = 0
            relation(1, 0, 1) = 0     # told already: not FULL
            relation(2, 0, 20) = 0
            undo(0, 20, 0) = 0
            relation(0, 20, 0) = -6
            undo(1, 0, 1) = 1
            count(1) = 399
            relation(0, 20, 0) = 1
            relation(1, 0, 1) = -6    # its room is taken
            count(1) = 400
            """).end();
    }

    private static void relationsOfWhichSomeAreAgainst() {
        almostFull("an AGAINST is one RELATION").rows("""
            relation(3, 19, 20) = 1
            count(1) = 400
            relation(3, 20, 19) = 0   # told of either, it is of both
            relation(3, 19, 18) = -6
            undo(3, 20, 19) = 1
            count(1) = 399
            related(3, 19, 20) = 0
            relation(3, 20, 19) = 1
            relation(0, 20, 19) = -6
            undo(3, 19, 20) = 1
            count(1) = 399
            relation(0, 20, 19) = 1
            """).end();
    }

    private static void relationsRefusedOtherwise() {
        almostFull("FULL comes last").rows("""
            relation(0, 0, 20) = 1
            count(1) = 400
            relation(0, 20, 20) = -1   # NONE
            relation(4, 20, 0) = -1
            relation(0, 20, 21) = -1
            undo(1, 1, 20) = 1
            undo(1, 1, 0) = 1
            relation(2, 1, 20) = 1
            relation(2, 2, 20) = 1
            count(1) = 400
            order(0, 20) = 1
            relation(2, 3, 20) = -3    # BUSY
            relation(0, 0, 20) = -3
            relation(0, 20, 20) = -1
            tick(1) = 1
            relation(0, 3, 20) = -4    # CLASH
            relation(3, 3, 20) = -4
            relation(0, 0, 20) = -4    # CLASH, though it is told already
            relation(2, 3, 20) = -6
            relation(2, 2, 20) = 0
            """).end();
    }

    private static void letters() {
        Story story = story("20 LETTERS").row("make(2, 2, 0)", 0);
        for (int i = 0; i < 20; i++) {
            story.row("about(0, 6)", i).row("letter(0)", i);
        }
        story.rows("""
            about(0, 6) = 20
            letter(0) = -6
            letter(0) = -6
            letter(1) = -1
            count(4) = 20
            tick(1) = 1
            letter(0) = -6        # STARTING, it reads none
            tick(1) = 2
            about(0, 6) = 19
            about(0, 8) = 0
            letter(0) = 20        # a refused one took no number
            letter(0) = -6
            tick(18) = 20
            about(0, 8) = 18
            tick(1) = 21
            about(0, 8) = 19
            tick(1) = 22
            about(0, 8) = 20
            tick(1) = 23
            about(0, 7) = 21
            count(5) = 21
            """).end();
    }

    private static void lettersRoundTheDoor() {
        // Three come and three are read again and again, so that they go through all the places at the door.
        Story story = story("LETTERS in their order").rows("make(2, 0, 0) = 0\norder(0, 0) = 1\n");
        for (int i = 0; i < 17; i++) {
            story.row("letter(0)", i);
        }
        int next = 17;
        int read = 0;
        for (int round = 0; round < 20; round++) {
            for (int i = 0; i < 3; i++) {
                story.row("letter(0)", next++);
            }
            story.row("letter(0)", -6);
            for (int i = 0; i < 3; i++) {
                story.row("tick(1)", ++read).row("about(0, 8)", read - 1);
            }
        }
        story.row("about(0, 6)", 17).row("count(4)", 77).row("count(5)", 60).end();
    }

    private static void lettersToOneThatIsDown() {
        Story story = story("a LETTER that is refused orders nothing").rows("""
            make(2, 0, 0) = 0
            make(0, 50, 0) = 1
            order(0, 1) = 1
            """);
        for (int i = 0; i < 20; i++) {
            story.row("letter(0)", i);
        }
        story.rows("""
            tick(50) = 50
            about(0, 0) = 0
            letter(0) = -6
            about(0, 0) = 0
            count(2) = 0
            order(0, 0) = 1
            about(0, 6) = 20      # none is read before a tick
            letter(0) = -6
            tick(1) = 51
            letter(0) = 20
            """).end();
    }

    private static void lettersOfManyDoors() {
        Story story = withServices("each door has room for 20", 3, "2, 1, 0");
        for (int i = 0; i < 60; i++) {
            story.row("letter(" + i % 3 + ")", i);
        }
        story.rows("""
            letter(0) = -6
            letter(1) = -6
            letter(2) = -6
            count(4) = 60
            tick(1) = 1
            about(0, 0) = 2       # the first LETTER of all began it; the others came when it was BUSY
            about(1, 0) = 0
            about(2, 0) = 0
            letter(1) = -6
            letter(0) = 60
            about(0, 6) = 20
            """).end();
    }

    private static void jobs() {
        Story story = withServices("40 JOBS", 40, "0, 50, 50");
        for (int s = 1; s < 40; s++) {
            story.row("relation(0, " + s + ", " + (s - 1) + ")", 1);
        }
        story.rows("""
            plan(0, 39) = 40
            quick() = 2000
            planned(0, 0) = 0
            planned(39, 0) = 39
            planned(39, 2) = 1950
            planned(39, 3) = 2000
            planned(40, 0) = -1
            order(0, 39) = 40
            count(2) = 40
            waits(39, 0) = 1
            waits(39, 1) = 0
            tick(1000) = 1000
            tick(999) = 1999
            count(2) = 1
            in(2) = 39
            tick(1) = 2000
            count(2) = 0
            in(2) = 40
            plan(1, 0) = 40
            planned(0, 0) = 39
            quick() = 2000
            order(1, 0) = 40
            tick(1000) = 3000
            tick(1000) = 4000
            in(0) = 40
            """).end();
        jobsWithOneThatAllWaitFor();
        jobsOfNoTick();
        jobsByAWantedOne();
    }

    private static void jobsWithOneThatAllWaitFor() {
        Story story = withServices("one that 39 wait for", 40, "0, 1, 1");
        for (int s = 0; s < 39; s++) {
            story.row("relation(0, " + s + ", 39)", 1);
            story.row("relation(1, 39, " + s + ")", 1);
        }
        story.rows("""
            order(0, 39) = 40
            waits(39, 1) = 39
            waits(0, 0) = 1
            tick(1) = 1
            in(1) = 39
            waits(39, 1) = 0
            tick(1) = 2
            in(2) = 40
            order(1, 39) = 40
            in(3) = 39
            waits(39, 0) = 39
            tick(2) = 4
            in(0) = 40
            """).end();
    }

    private static void jobsOfNoTick() {
        Story story = withServices("40 JOBS that begin and end at once", 40, "3, 0, 0");
        for (int s = 1; s < 40; s++) {
            story.row("relation(0, " + (s - 1) + ", " + s + ")", 1);
        }
        story.rows("""
            order(0, 0) = 40
            in(2) = 40
            count(2) = 0
            changes() = 40
            change(0, 1) = 39
            change(39, 1) = 0
            order(1, 39) = 40
            in(0) = 40
            change(40, 1) = 0
            change(79, 1) = 39
            """).end();
    }

    private static void jobsByAWantedOne() {
        Story story = withServices("all others come by way of one that is wanted", 40, "0, 0, 0");
        for (int s = 1; s < 40; s++) {
            story.row("relation(0, " + s + ", " + (s - 1) + ")", 1);
        }
        story.rows("""
            relation(1, 0, 39) = 1
            plan(0, 0) = 40
            order(0, 0) = 40
            in(2) = 40
            life(0, 0, 1) = 0
            life(0, 1, 1) = 0
            order(1, 0) = 40
            order(0, 0) = 40
            tick(1) = 1
            in(0) = 39               # all go in one tick
            in(4) = 1
            """).end();
    }

    private static void shortestRings() {
        Story story = withServices("a shortest ring among many", 40, "0, 1, 1");
        for (int s = 1; s < 40; s++) {
            story.row("relation(" + s % 2 * 2 + ", " + (s - 1) + ", " + s + ")", 1);
            story.row("relation(0, 0, " + s + ")", 1);
        }
        for (int s = 39; s >= 1; s--) {
            story.row("relation(2, " + s + ", 0)", 1).row("order(0, 0)", -5).row("ring()", 2);
            story.row("undo(2, " + s + ", 0)", 1);
        }
        story.row("plan(0, 0)", 40).end();
        ringsOfTwoSizes();
        longRings();
    }

    private static void ringsOfTwoSizes() {
        // 0 NEEDS one of each ring; the one with the lesser services is first the shorter, then the longer.
        for (int longer : new int[] {1, 3}) {
            int shorter = longer == 1 ? 4 : 1;
            Story story = withServices("the shorter of two rings", 7, "0, 0, 0");
            for (int i = 0; i < 3; i++) {
                story.row("relation(2, " + (longer + i) + ", " + (longer + (i + 1) % 3) + ")", 1);
                story.row("relation(0, 0, " + (longer + i) + ")", 1);
            }
            for (int i = 0; i < 2; i++) {
                story.row("relation(2, " + (shorter + i) + ", " + (shorter + (i + 1) % 2) + ")", 1);
                story.row("relation(0, 0, " + (shorter + i) + ")", 1);
            }
            story.row("order(0, 0)", -5).row("ring()", 2);
            story.row("undo(2, " + shorter + ", " + (shorter + 1) + ")", 1).row("plan(0, 0)", -5).row("ring()", 3).end();
        }
    }

    private static void longRings() {
        for (int size = 2; size <= 40; size++) {
            Story story = withServices("a ring of " + size, 40, "3, 0, 0");
            for (int s = 0; s < size; s++) {
                story.row("relation(0, " + s + ", " + (s + 1) % size + ")", 1);
            }
            story.row("order(0, 0)", -5).row("ring()", size).row("plan(2, " + (size - 1) + ")", -5);
            story.row("ring()", size).row("order(1, 0)", 0).row("undo(0, 0, 1)", 1).row("order(0, 0)", 1).end();
        }
    }

    /** It becomes UP and WAITING in turn: change i is at tick i. */
    private static Story everyTickAChange(String name) {
        Story story = story(name).row("make(0, 0, 0)", 0);
        for (int i = 0; i < 8; i++) {
            story.row("life(0, " + i + ", 1)", 0);
        }
        return story.row("again(0, 1, 1, 1)", 1).row("order(0, 0)", 1);
    }

    private static void history() {
        everyTickAChange("the latest 2000").rows("""
            tick(1000) = 1000
            tick(998) = 1998
            changes() = 1999
            change(0, 0) = 0
            change(1998, 0) = 1998
            change(1999, 0) = -1
            tick(1) = 1999
            changes() = 2000
            change(0, 0) = 0       # the 2000th latest
            change(0, 2) = 2
            change(1999, 0) = 1999
            change(2000, 0) = -1
            tick(1) = 2000
            changes() = 2001
            change(0, 0) = -1      # the 2001st latest
            change(0, 1) = -1
            change(0, 2) = -1
            change(1, 0) = 1
            change(1, 1) = 0
            change(1, 2) = 5
            change(1, 3) = -1
            change(1, -1) = -1
            change(2000, 0) = 2000
            change(2000, 2) = 2
            change(2001, 0) = -1
            tick(1) = 2001
            change(1, 0) = -1
            change(2, 0) = 2
            """).end();
    }

    private static void historyRoundAndRound() {
        Story story = everyTickAChange("changes beyond many times 2000");
        for (int i = 1; i <= 100; i++) {
            story.row("tick(1000)", 1000 * i);
        }
        story.rows("""
            changes() = 100001
            change(-1, 0) = -1
            change(0, 0) = -1
            change(2000, 0) = -1
            change(98000, 0) = -1
            change(98001, 0) = 98001
            change(98001, 1) = 0
            change(98001, 2) = 5
            change(100000, 0) = 100000
            change(100000, 2) = 2
            change(100001, 0) = -1
            change(102001, 0) = -1
            change(max, 0) = -1
            change(min, 0) = -1
            """).end();
    }
}
