/** Times, at the last tick before and at the first tick after: START, STOP, LIFE, DELAY, BUDGET, WINDOW, and turns. */
public final class TimesTest {
    private static final Checks CHECKS = new Checks("TimesTest");

    public static void main(String[] args) {
        startAndStop();
        startAndStopOfNoTick();
        life();
        lifeOfOnce();
        lifeBesideOthers();
        lifeOfNoEnd();
        lifeOfTheEighthStartAndLater();
        lifeToldWhileItRuns();
        delay();
        budget();
        window();
        windowOfManyTimes();
        budgetToldAnew();
        ticksTogetherOrOneByOne();
        CHECKS.end();
    }

    private static Story story(String name) {
        return new Story(CHECKS, name);
    }

    /** So many ticks, of which the last one comes alone, and the STATES of service 0 before it and after it. */
    private static Story over(Story story, int from, int ticks, int stateBefore, int stateAfter) {
        if (ticks > 1) {
            story.row("tick(" + (ticks - 1) + ")", from + ticks - 1);
        }
        return story.states(stateBefore).row("tick(1)", from + ticks).states(stateAfter)
            .row("about(0, 1)", from + ticks);
    }

    private static void startAndStop() {
        for (int n : new int[] {1, 2, 49, 50}) {
            Story story = story("START and STOP " + n).row("make(0, " + n + ", " + n + ")", 0);
            story.row("tick(3)", 3).row("order(0, 0)", 1).row("about(0, 1)", 3);
            over(story, 3, n, 1, 2);
            story.row("count(2)", 0).row("order(1, 0)", 1).row("about(0, 1)", 3 + n);
            over(story, 3 + n, n, 3, 0);
            story.row("count(2)", 0).end();
        }
    }

    private static void startAndStopOfNoTick() {
        Story.of(CHECKS, "START and STOP 0", """
            make(0, 0, 0) = 0
            make(3, 0, 0) = 1
            tick(4) = 4
            order(0, 0) = 1
            about(0, 0) = 2
            about(0, 1) = 4
            about(0, 2) = 1
            changes() = 1        # it was never STARTING
            order(0, 1) = 1
            order(1, 0) = 1
            about(0, 0) = 0
            changes() = 3        # nor STOPPING
            order(2, 0) = 2
            about(0, 0) = 2
            about(1, 0) = 0
            """);
        Story.of(CHECKS, "START 0, STOP 1", """
            make(0, 0, 1) = 0
            order(0, 0) = 1
            order(1, 0) = 1
            about(0, 0) = 3
            tick(1) = 1
            about(0, 0) = 0
            """);
        Story.of(CHECKS, "START 1, STOP 0", """
            make(0, 1, 0) = 0
            order(0, 0) = 1
            about(0, 0) = 1
            tick(1) = 1
            order(1, 0) = 1
            about(0, 0) = 0
            """);
    }

    private static void life() {
        for (int kind : new int[] {0, 2}) {
            for (int n : new int[] {1, 2, 999, 1000}) {
                Story story = story("LIFE " + n).row("make(" + kind + ", 3, 3)", 0).row("life(0, 0, " + n + ")", 0);
                story.row("order(0, 0)", 1).row("tick(3)", 3).states(2);
                over(story, 3, n, 2, 4);
                story.row("about(0, 4)", 0).end();
            }
        }
    }

    private static void lifeOfOnce() {
        for (int n : new int[] {1, 2, 1000}) {
            Story story = story("LIFE of ONCE " + n).row("make(1, 0, 0)", 0).row("make(0, 0, 0)", 1);
            story.row("relation(0, 1, 0)", 1).row("life(0, 0, " + n + ")", 0).row("again(0, 1, 10, 200)", 1);
            story.row("order(0, 0)", 1);
            if (n > 1) {
                story.row("tick(" + (n - 1) + ")", n - 1);
            }
            story.row("about(0, 4)", 0).row("tick(1)", n).row("about(0, 4)", 1).states(2, 0);
            story.row("about(0, 3)", 0).row("changes()", 1).row("about(0, 1)", 0);
            // It counts as UP: what NEEDS it can start, and goes on.
            story.row("order(0, 1)", 1).states(2, 2).row("tick(1000)", n + 1000).states(2, 2);
            story.row("about(0, 4)", 1).row("order(1, 0)", 2).row("about(0, 4)", 0);
            story.row("order(0, 0)", 1).row("about(0, 4)", 0).end();
        }
    }

    private static void lifeBesideOthers() {
        story("one that has ENDED or failed leaves the LIFE of the others").rows("""
            make(0, 0, 0) = 0
            make(1, 0, 0) = 1
            make(0, 0, 0) = 2
            make(1, 0, 0) = 3
            life(0, 0, 3) = 0
            life(1, 0, 1) = 0
            life(2, 0, 2) = 0
            life(3, 0, 3) = 0
            order(0, 0) = 1
            order(0, 1) = 1
            order(0, 2) = 1
            order(0, 3) = 1
            tick(1) = 1
            about(1, 4) = 1
            about(3, 4) = 0
            tick(1) = 2
            about(2, 0) = 4
            about(0, 0) = 2
            tick(1) = 3
            about(0, 0) = 4
            about(3, 4) = 1
            about(1, 4) = 1
            """).end();
    }

    private static void lifeOfNoEnd() {
        for (int kind : new int[] {0, 1, 2}) {
            story("LIFE 0").row("make(" + kind + ", 0, 0)", 0).row("again(0, 1, 10, 200)", 1).row("life(0, 1, 1)", 0)
                .row("order(0, 0)", 1).row("tick(1000)", 1000).row("tick(1000)", 2000).states(2)
                .row("about(0, 4)", 0).row("about(0, 3)", 0).row("changes()", 1).end();
        }
        story("a GROUP has no LIFE").rows("""
            make(3, 0, 0) = 0
            life(0, 0, 1) = -2
            life(0, 7, 0) = -2
            order(0, 0) = 1
            tick(1000) = 1000
            about(0, 0) = 2
            """).end();
    }

    private static void lifeOfTheEighthStartAndLater() {
        // LIFE of start i is 10 + i up to that of number 7, which is also that of all later ones.
        Story story = story("the 8th start").row("make(0, 0, 0)", 0);
        for (int i = 0; i < 8; i++) {
            story.row("life(0, " + i + ", " + (10 + i) + ")", 0);
        }
        int tick = 0;
        for (int start = 0; start < 12; start++) {
            int life = start < 7 ? 10 + start : 17;
            story.row("about(0, 2)", start).row("order(0, 0)", 1).row("about(0, 2)", start + 1);
            over(story, tick, life, 2, 4);
            tick += life;
            story.row("about(0, 3)", start + 1);
        }
        story.row("life(0, 6, 1)", 16).row("order(0, 0)", 1).row("tick(16)", tick + 16).states(2);
        story.row("tick(1)", tick + 17).states(4).row("life(0, 7, 1)", 17).row("order(0, 0)", 1);
        story.row("tick(1)", tick + 18).states(4).end();
    }

    private static void lifeToldWhileItRuns() {
        story("what is told later is for later starts").rows("""
            make(0, 1, 0) = 0
            life(0, 0, 5) = 0
            order(0, 0) = 1
            life(0, 0, 3) = 5     # it is only STARTING: this is told when it becomes UP
            tick(1) = 1
            life(0, 0, 1) = 3     # too late
            life(0, 1, 0) = 0
            tick(2) = 3
            about(0, 0) = 2
            tick(1) = 4
            about(0, 0) = 4
            order(0, 0) = 1
            tick(1) = 5
            life(0, 1, 1) = 0     # LIFE 0 when it became UP: it stays
            tick(100) = 105
            about(0, 0) = 2
            order(1, 0) = 1
            order(0, 0) = 1
            tick(100) = 205
            about(0, 0) = 2       # the third start
            """).end();
    }

    private static void delay() {
        for (int n : new int[] {1, 2, 49, 50}) {
            Story story = story("DELAY " + n).row("make(0, 2, 1)", 0).row("life(0, 0, 1)", 0);
            story.row("again(0, " + n + ", 1, 1)", 1).row("order(0, 0)", 1).row("tick(3)", 3).states(5);
            over(story, 3, n, 5, 1);
            story.row("count(2)", 0);
            over(story, 3 + n, 2, 1, 2);
            story.row("about(0, 2)", 2).row("about(0, 3)", 1).end();
            Story atOnce = story("DELAY " + n + ", START 0").row("make(0, 0, 0)", 0).row("life(0, 0, 1)", 0);
            atOnce.row("again(0, " + n + ", 1, 1)", 1).row("order(0, 0)", 1).row("tick(1)", 1).states(5);
            over(atOnce, 1, n, 5, 2);
            atOnce.row("changes()", 3).end();
        }
        story("DELAY told shorter while it is WAITING").rows("""
            make(0, 0, 0) = 0
            life(0, 0, 1) = 0
            again(0, 50, 1, 1) = 1
            order(0, 0) = 1
            tick(10) = 10
            again(0, 1, 1, 1) = 1
            about(0, 0) = 5       # it is looked at in a tick
            tick(1) = 11
            about(0, 0) = 2
            """).end();
        story("DELAY told longer while it is WAITING").rows("""
            make(0, 0, 0) = 0
            life(0, 0, 1) = 0
            again(0, 2, 1, 1) = 1
            order(0, 0) = 1
            tick(1) = 1
            again(0, 5, 1, 1) = 1
            again(0, 0, 1, 1) = -1
            again(0, 51, 1, 1) = -1
            tick(4) = 5
            about(0, 0) = 5
            tick(1) = 6
            about(0, 0) = 2
            """).end();
    }

    /** LIFE 1, DELAY 1, START 0: it fails at 1, 3, 5, .. as long as it may. */
    private static Story failing(String name, int budget, int window) {
        Story story = story(name).row("make(0, 0, 0)", 0);
        for (int i = 0; i < 8; i++) {
            story.row("life(0, " + i + ", 1)", 0);
        }
        return story.row("again(0, 1, " + budget + ", " + window + ")", 1).row("order(0, 0)", 1);
    }

    private static void budget() {
        for (int n = 0; n <= 10; n++) {
            Story story = failing("BUDGET " + n, n, 200);
            for (int k = 0; k < n; k++) {
                story.row("tick(1)", 2 * k + 1).states(5).row("about(0, 3)", k + 1);
                story.row("tick(1)", 2 * k + 2).states(2);
            }
            story.row("tick(1)", 2 * n + 1).states(4).row("about(0, 3)", n + 1).row("about(0, 2)", n + 1);
            story.row("tick(1000)", 2 * n + 1001).states(4).end();
        }
    }

    private static void window() {
        // WAITING at 1, UP at 2, and LIFE is over at 2 + life: 1 is within the last 2 + life ticks, but not 1 + life.
        for (int life : new int[] {1, 2, 3, 197, 198}) {
            for (int window : new int[] {1, life, life + 1, life + 2, 200}) {
                Story story = story("WINDOW " + window).row("make(0, 0, 0)", 0).row("life(0, 0, 1)", 0);
                story.row("life(0, 1, " + life + ")", 0).row("again(0, 1, 1, " + window + ")", 1);
                story.row("order(0, 0)", 1).row("tick(2)", 2).states(2);
                over(story, 2, life, 2, window >= life + 2 ? 4 : 5);
                story.end();
            }
        }
        story("WINDOW 200 at its farthest").rows("""
            make(0, 0, 0) = 0
            life(0, 0, 1) = 0
            life(0, 1, 199) = 0
            life(0, 2, 198) = 0
            again(0, 1, 1, 200) = 1
            order(0, 0) = 1
            tick(200) = 200
            about(0, 0) = 2
            tick(1) = 201         # the last 200 ticks are 2 .. 201, without 1
            about(0, 0) = 5
            tick(198) = 399
            about(0, 0) = 2
            tick(1) = 400         # the last 200 ticks are 201 .. 400
            about(0, 0) = 4
            """).end();
    }

    private static void windowOfManyTimes() {
        // WAITING at 1, 3, .., 19; at 21 there are ten within 21 ticks, nine within 20.
        failing("BUDGET 10, WINDOW 21", 10, 21).row("tick(20)", 20).states(2).row("tick(1)", 21).states(4).end();
        failing("BUDGET 10, WINDOW 20", 10, 20).row("tick(20)", 20).states(2).row("tick(1)", 21).states(5)
            .row("tick(979)", 1000).row("tick(1)", 1001).states(5).row("about(0, 3)", 501).end();
        // At 5 there are 1 and 3 within 5 ticks, 3 alone within 4.
        failing("BUDGET 2, WINDOW 5", 2, 5).row("tick(5)", 5).states(4).end();
        failing("BUDGET 2, WINDOW 4", 2, 4).row("tick(5)", 5).states(5).row("tick(1000)", 1005).states(5).end();
        failing("BUDGET 1, WINDOW 2", 1, 2).row("tick(1)", 1).row("tick(1000)", 1001).states(5).end();
        failing("BUDGET 1, WINDOW 3", 1, 3).row("tick(3)", 3).states(4).end();
        failing("WINDOW 1 holds none of the earlier ones", 1, 1).row("tick(1000)", 1000).row("tick(1)", 1001)
            .states(5).end();
    }

    private static void budgetToldAnew() {
        failing("all times count, under whatever BUDGET they came", 10, 200).rows("""
            tick(8) = 8            # WAITING at 1, 3, 5, 7
            again(0, 1, 4, 9) = 1
            again(0, 1, 11, 9) = -1
            again(0, 1, 4, 201) = -1
            tick(1) = 9            # the last 9 ticks are 1 .. 9, with four
            about(0, 0) = 4
            again(0, 1, 4, 9) = 1
            order(0, 0) = 1
            tick(1) = 10           # 2 .. 10, with three
            about(0, 0) = 5
            again(0, 1, 0, 1) = 1  # it is WAITING already
            tick(1) = 11
            about(0, 0) = 2
            tick(1) = 12
            about(0, 0) = 4
            again(0, 1, 5, 200) = 1
            order(0, 0) = 1
            tick(1) = 13           # WAITING at 1, 3, 5, 7, 10
            about(0, 0) = 4
            again(0, 1, 6, 200) = 1
            order(0, 0) = 1
            tick(1) = 14
            about(0, 0) = 5
            """).end();
        story("BUDGET told while it is UP").rows("""
            make(0, 0, 0) = 0
            life(0, 0, 3) = 0
            order(0, 0) = 1
            tick(2) = 2
            again(0, 1, 1, 1) = 1
            tick(1) = 3
            about(0, 0) = 5
            """).end();
    }

    private static void ticksTogetherOrOneByOne() {
        ServiceTree together = busyMachine();
        ServiceTree apart = busyMachine();
        CHECKS.due("tick(1000)", together.tick(1000), 1000);
        for (int i = 1; i <= 1000; i++) {
            CHECKS.due("tick(1)", apart.tick(1), i);
        }
        String difference = new Picture(together, true).differsFrom(new Picture(apart, true));
        CHECKS.that("tick(1000) is as 1000 times tick(1), but " + difference, difference == null);
    }

    private static ServiceTree busyMachine() {
        ServiceTree x = new ServiceTree();
        for (int s = 0; s < 5; s++) {
            x.make(2, s % 3, s % 2);
            x.life(s, 7, 5 + s);
            x.life(s, 0, 9 - s);
            x.again(s, 1 + s, 3, 30);
        }
        x.relation(0, 3, 1);
        x.relation(0, 4, 3);
        x.relation(1, 4, 0);
        x.letter(4);
        return x;
    }
}
