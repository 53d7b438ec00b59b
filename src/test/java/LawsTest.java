import java.util.Random;
import java.util.TreeSet;

/**
 * What the document's first line promises of every run, asked of the class alone and not of a model: services started
 * in the order that each needs, as many at once as may be, stopped in the contrary order, woken by a letter, started
 * again within budgets; each order's plan told ahead; never one that runs without what it needs or beside what it is
 * against. The runs are random, and the same each time.
 */
public final class LawsTest {
    private static final Checks CHECKS = new Checks("LawsTest");
    private static final int RUNS = 1500;
    private static final int CALLS = 70;
    private static final int STOP = 1, ISOLATE = 2;
    private static final int[] HOWS = {0, 0, 0, 1, 1, 2, 2, 3};
    private static final int[] HOWS_WITH_MUCH_BEHIND = {0, 1, 2, 2, 2, 2, 2, 3};

    private final String name;
    private final Random random;
    private final ServiceTree tree = new ServiceTree();
    /** Gets no call that is refused, no PLAN and each tick by itself. */
    private final ServiceTree twin = new ServiceTree();
    private final Journal journal;
    private final int most;
    private final int longest;
    private final boolean failing;
    private final boolean waitsMuch;
    private static int followed;
    private static int followedPastWaiting;
    private static int followedPastWaking;

    private LawsTest(int seed) {
        name = "run " + seed;
        random = new Random(seed * 7919L + 1);
        journal = new Journal(CHECKS, name, tree);
        most = seed % 12 == 11 ? 40 : 2 + random.nextInt(8);
        longest = new int[] {0, 2, 5, 50}[random.nextInt(4)];
        failing = seed % 3 != 0;
        waitsMuch = seed % 3 == 2;
    }

    public static void main(String[] args) {
        for (int seed = 0; seed < RUNS && CHECKS.wrongSoFar() == 0; seed++) {
            new LawsTest(seed).run();
        }
        CHECKS.that("PLANS were followed to their end", followed > 1000);
        CHECKS.that("some of them with the stop of one that was WAITING", followedPastWaiting > 100);
        CHECKS.that("some of them with the stop of one that had woken by then", followedPastWaking > 3);
        CHECKS.end();
    }

    private void run() {
        for (int s = 0; s < most; s++) {
            make();
        }
        for (int i = 0; i < most * 2; i++) {
            relate();
        }
        for (int i = 0; i < CALLS && CHECKS.wrongSoFar() == 0; i++) {
            callOne();
            laws();
        }
        // PLANS and RINGS differ by intent: the twin was told of no PLAN, and of nothing that is refused.
        for (int s = 0; s < most; s++) {
            for (int what = 0; what <= 9; what++) {
                due("as the twin: about(" + s + ", " + what + ")", tree.about(s, what), twin.about(s, what));
            }
        }
        due("as the twin: changes()", tree.changes(), twin.changes());
        for (int i = Math.max(0, tree.changes() - 2000); i < tree.changes(); i++) {
            for (int what = 0; what <= 2; what++) {
                due("as the twin: change(" + i + ", " + what + ")", tree.change(i, what), twin.change(i, what));
            }
        }
    }

    private void due(String what, int got, int want) {
        CHECKS.due(name + ": " + what, got, want);
    }

    private void that(String what, boolean holds) {
        CHECKS.that(name + ": " + what, holds);
    }

    private int upTo(int n) {
        return random.nextInt(n + 1);
    }

    // ---- calls

    private void make() {
        int kind = upTo(3);
        // Quick starts, in runs where much is WAITING, so that it can be ordered about before it wakes.
        int start = kind == 3 || waitsMuch && upTo(3) != 0 ? 0 : upTo(longest);
        int stop = kind == 3 ? 0 : upTo(longest);
        due("make", tree.make(kind, start, stop), journal.pages.size());
        twin.make(kind, start, stop);
        journal.pages.add(new Journal.Page(kind, start, stop, tree.count(3)));
        if (failing) {
            tellOfFailing(journal.pages.size() - 1);
        }
    }

    private void tellOfFailing(int s) {
        Journal.Page page = journal.pages.get(s);
        for (int i = 0; i <= 7 && page.kind != 3; i++) {
            int v = random.nextBoolean() ? 0 : 1 + upTo(4 * longest + 3);
            due("life", tree.life(s, i, v), page.lives[i]);
            twin.life(s, i, v);
            page.lives[i] = v;
        }
        // While it is WAITING a new DELAY might be over already, which the journal has no word for.
        if (page.state != 5) {
            page.delay = 1 + upTo(Math.min(49, 2 * longest + 2));
            page.budget = waitsMuch ? 10 : upTo(4);
            page.window = waitsMuch ? 1 : 1 + upTo(60);
            due("again", tree.again(s, page.delay, page.budget, page.window), 1);
            twin.again(s, page.delay, page.budget, page.window);
        }
    }

    private void relate() {
        int how = (waitsMuch ? HOWS_WITH_MUCH_BEHIND : HOWS)[random.nextInt(8)];
        int a = random.nextInt(most);
        int b = random.nextInt(most);
        // Most NEEDS and BEHIND go to a lesser service, so that not all orders end in RING.
        boolean turn = how != 1 && a < b && upTo(9) != 0;
        int from = turn ? b : a;
        int to = turn ? a : b;
        int before = tree.count(1);
        int answer = tree.relation(how, from, to);
        if (answer >= 0) {
            twin.relation(how, from, to);
            due("it is told now", tree.related(how, from, to), 1);
        }
        due("RELATIONS", tree.count(1), before + (answer == 1 ? 1 : 0));
    }

    private void undo() {
        int how = upTo(3);
        int a = random.nextInt(most);
        int b = random.nextInt(most);
        int was = tree.related(how, a, b);
        int answer = tree.undo(how, a, b);
        if (answer >= 0) {
            due("undo tells whether it was there", answer, was);
            due("it is gone", tree.related(how, a, b), 0);
            due("either way", how == 3 ? tree.related(how, b, a) : 0, 0);
            twin.undo(how, a, b);
        }
    }

    private void tick(int n) {
        due("tick", tree.tick(n), twin.count(3) + n);
        for (int i = 0; i < n; i++) {
            twin.tick(1);
        }
        journal.readOn();
    }

    private void tickUntilOneWaits() {
        for (int i = 0; i < 40 && (tree.in(5) == 0 || !isFree()); i++) {
            tick(1);
        }
    }

    private void letter() {
        int s = random.nextInt(most);
        boolean down = tree.about(s, 0) == 0;
        boolean free = isFree();
        int lay = tree.about(s, 6);
        int number = tree.letter(s);
        boolean taken = tree.about(s, 9) == 2 && lay < 20;
        that("a LETTER is taken by an open door", (number >= 0) == taken);
        if (taken) {
            due("its number", number, tree.count(4) - 1);
            due("it lies there", tree.about(s, 6), lay + 1);
            that("it wakes only one that is DOWN, and not while there are JOBS",
                down && free || tree.changes() == twin.changes());
            twin.letter(s);
        }
        journal.readOn();
    }

    private void callOne() {
        int pick = upTo(99);
        if (pick < 45) {
            if (waitsMuch && random.nextBoolean()) {
                tickUntilOneWaits();
            }
            give(upTo(2), random.nextInt(most));
        } else if (pick < 70) {
            tick(1 + upTo(upTo(9) == 0 ? 100 : 2 * longest + 1));
        } else if (pick < 80) {
            letter();
        } else if (pick < 87) {
            relate();
        } else if (pick < 91) {
            undo();
        } else if (failing) {
            tellOfFailing(random.nextInt(most));
        }
    }

    // ---- an order, its PLAN and what becomes of it

    private boolean isFree() {
        return tree.count(2) == 0 && tree.in(1) == 0 && tree.in(3) == 0;
    }

    private void give(int how, int x) {
        TreeSet<Integer> needed = reach(x, 0);
        boolean clash = how != STOP && hasClash(needed);
        boolean free = isFree();
        int before = tree.changes();
        int answer = tree.plan(how, x);
        due("a PLAN changes nothing", tree.changes(), before);
        that("BUSY just if it is busy", (answer == ServiceTree.BUSY) == !free);
        that("CLASH just if members clash", (answer == ServiceTree.CLASH) == (free && clash));
        Course course = new Course(CHECKS, name, tree);
        if (answer >= 0) {
            due("as many JOBS as it tells", course.size(), answer);
            course.planIsRight(journal);
        }
        due("order() answers as plan()", tree.order(how, x), answer);
        if (answer == ServiceTree.RING) {
            that("a ring has two or more", tree.ring() >= 2 && tree.ring() <= most);
        }
        if (answer < 0) {
            due("what is refused changes nothing", tree.changes(), before);
            return;
        }
        twin.order(how, x);
        journal.readOn();
        if (upTo(3) != 0) {
            follow(course, how, x);
        }
    }

    private int failures() {
        int n = 0;
        for (int s = 0; s < most; s++) {
            n += tree.about(s, 3);
        }
        return n;
    }

    /** To the end of the JOBS, or to the first failure, from which on the PLAN holds no more. */
    private void follow(Course course, int how, int x) {
        int before = failures();
        int end = tree.quick();
        course.isAt(0);
        for (int t = 1; t <= end; t++) {
            tick(1);
            if (failures() != before) {
                return;
            }
            course.isAt(t);
        }
        due("the JOBS end with the PLAN", tree.count(2), 0);
        reached(how, x);
        followed++;
        followedPastWaiting += course.stopsWaiting() ? 1 : 0;
        followedPastWaking += course.stopsWoken() ? 1 : 0;
    }

    private void reached(int how, int x) {
        TreeSet<Integer> needed = reach(x, 0);
        TreeSet<Integer> wanted = reach(x, 0, 1);
        for (int s = 0; s < most; s++) {
            int state = tree.about(s, 0);
            boolean awake = state == 1 || state == 2 || state == 5;
            if (how == STOP) {
                that("what needs " + x + " has stopped: " + s, !awake || !reach(s, 0).contains(x));
            } else {
                that("what " + x + " needs is UP: " + s, !needed.contains(s) || state == 2);
            }
            that("only what " + x + " needs or wants is left: " + s, how != ISOLATE || !awake || wanted.contains(s));
        }
    }

    /** Where one comes from x by these relations, x itself among them. */
    private TreeSet<Integer> reach(int x, int... hows) {
        TreeSet<Integer> all = new TreeSet<>();
        TreeSet<Integer> todo = new TreeSet<>();
        todo.add(x);
        while (!todo.isEmpty()) {
            int a = todo.pollFirst();
            all.add(a);
            for (int b = 0; b < most; b++) {
                for (int how : hows) {
                    if (tree.related(how, a, b) == 1 && !all.contains(b)) {
                        todo.add(b);
                    }
                }
            }
        }
        return all;
    }

    private boolean hasClash(TreeSet<Integer> set) {
        for (int a : set) {
            for (int b : set) {
                if (tree.related(3, a, b) == 1) {
                    return true;
                }
            }
        }
        return false;
    }

    // ---- what holds after every call

    private void laws() {
        journal.readOn();
        needsAndAgainst();
        counts();
    }

    private void needsAndAgainst() {
        for (int a = 0; a < most; a++) {
            int state = tree.about(a, 0);
            boolean runs = state == 1 || state == 2;
            for (int b = 0; b < most; b++) {
                int other = tree.about(b, 0);
                that("what " + a + " needs is UP", !runs || tree.related(0, a, b) != 1 || other == 2);
                boolean beside = (runs || state == 3) && other >= 1 && other <= 3;
                that("what " + a + " is against does not run beside it", !beside || tree.related(3, a, b) != 1);
            }
        }
        due("check()", tree.check(), 0);
    }

    private void counts() {
        int[] inState = new int[6];
        int jobs = 0;
        int awaited = 0;
        int awaiting = 0;
        int lie = 0;
        int read = 0;
        for (int s = 0; s < most; s++) {
            inState[tree.about(s, 0)]++;
            jobs += tree.about(s, 5) == 0 ? 0 : 1;
            awaited += tree.waits(s, 0);
            awaiting += tree.waits(s, 1);
            lie += tree.about(s, 6);
            read += tree.about(s, 7);
            that("the LETTER read last has come", tree.about(s, 8) < tree.count(4));
        }
        for (int state = 0; state < 6; state++) {
            due("in(" + state + ")", tree.in(state), inState[state]);
        }
        due("JOBS", tree.count(2), jobs);
        due("who waits is waited for", awaited, awaiting);
        due("LETTERS read", tree.count(5), read);
        due("LETTERS come", tree.count(4), read + lie);
    }
}
