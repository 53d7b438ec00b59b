import java.util.ArrayList;
import java.util.List;

/**
 * What change() tells of an object, read on from call to call, and held against what the document says of one service
 * by itself: which STATE may follow which, after how many ticks, and what about() has to answer then.
 */
final class Journal {
    private static final int DOWN = 0, STARTING = 1, UP = 2, STOPPING = 3, FAILED = 4, WAITING = 5;
    /** Which STATES may follow each one, as bits. */
    private static final int[] NEXT = {
        1 << STARTING | 1 << UP,
        1 << UP | 1 << STOPPING | 1 << DOWN,
        1 << STOPPING | 1 << DOWN | 1 << FAILED | 1 << WAITING,
        1 << DOWN,
        1 << STARTING | 1 << UP,
        1 << DOWN | 1 << STARTING | 1 << UP | 1 << FAILED};

    /** A service as it was told to the object, and what its changes have come to. */
    static final class Page {
        final int kind;
        final int start;
        final int stop;
        final int[] lives = new int[8];
        final List<Integer> waitings = new ArrayList<>();
        int delay = 1;
        int budget;
        int window = 1;
        int state;
        int since;
        int starts;
        int failures;
        int life;

        Page(int kind, int start, int stop, int since) {
            this.kind = kind;
            this.start = start;
            this.stop = stop;
            this.since = since;
        }
    }

    private final Checks checks;
    private final String name;
    private final ServiceTree tree;
    final List<Page> pages = new ArrayList<>();
    private int read;
    private int latestTick;

    Journal(Checks checks, String name, ServiceTree tree) {
        this.checks = checks;
        this.name = name;
        this.tree = tree;
    }

    void readOn() {
        for (; read < tree.changes(); read++) {
            int tick = tree.change(read, 0);
            that("the ticks of changes rise", tick >= latestTick && tick <= tree.count(3));
            latestTick = tick;
            enter(tick, tree.change(read, 1), tree.change(read, 2));
        }
        for (int s = 0; s < pages.size(); s++) {
            compare(s, pages.get(s));
        }
    }

    private void enter(int tick, int s, int state) {
        Page page = pages.get(s);
        String what = "service " + s + " from " + page.state + " to " + state + " at tick " + tick;
        that(what, (NEXT[page.state] >> state & 1) == 1);
        that(what + " after its time", timeIsRight(page, tick - page.since, state));
        if (page.state == UP && (state == WAITING || state == FAILED)) {
            that(what + " within its BUDGET", (state == WAITING) == mayWait(page, tick));
        }
        if (state == STARTING || state == UP && page.state != STARTING) {
            that(what + " by its START", (state == UP) == (page.start == 0));
        }
        if (state == STOPPING || state == DOWN && (page.state == UP || page.state == STARTING)) {
            that(what + " by its STOP", (state == DOWN) == (page.stop == 0));
        }
        page.state = state;
        page.since = tick;
        page.life = 0;
        if (state == UP) {
            page.life = page.lives[Math.min(page.starts, 7)];
            page.starts++;
        }
        if (state == FAILED || state == WAITING) {
            page.failures++;
        }
        if (state == WAITING) {
            page.waitings.add(tick);
        }
    }

    private static boolean timeIsRight(Page page, int ticks, int next) {
        switch (page.state) {
            case STARTING: return next == UP ? ticks == page.start : ticks <= page.start;
            case STOPPING: return ticks == page.stop;
            case UP: return next != FAILED && next != WAITING || page.kind != 1 && page.life > 0 && ticks == page.life;
            case WAITING: return next == DOWN ? ticks <= page.delay : ticks == page.delay;
            default: return true;
        }
    }

    private static boolean mayWait(Page page, int tick) {
        int recent = 0;
        for (int time : page.waitings) {
            recent += time > tick - page.window ? 1 : 0;
        }
        return recent < page.budget;
    }

    private void compare(int s, Page page) {
        int ticks = tree.count(3) - page.since;
        that("STATE of " + s, tree.about(s, 0) == page.state);
        that("TICK of the STATE of " + s, tree.about(s, 1) == page.since);
        that("starts of " + s, tree.about(s, 2) == page.starts);
        that("failures of " + s, tree.about(s, 3) == page.failures);
        boolean lifeIsOver = page.state == UP && page.life > 0 && ticks >= page.life;
        that("ENDED of " + s, tree.about(s, 4) == (lifeIsOver ? 1 : 0));
        that("only ONCE outlives its LIFE: " + s, !lifeIsOver || page.kind == 1);
        that("no longer STARTING than START: " + s, page.state != STARTING || ticks < page.start);
        that("no longer STOPPING than STOP: " + s, page.state != STOPPING || ticks < page.stop);
        that("no longer WAITING than DELAY: " + s, page.state != WAITING || ticks < page.delay);
        that("KIND of " + s, tree.about(s, 9) == page.kind);
    }

    private void that(String what, boolean holds) {
        checks.that(name + ": " + what, holds);
    }
}
