import java.util.Random;

/** Random runs, the same ones each time, of the program beside the naive model. */
public final class ModelRunsTest {
    private static final int RUNS = 3000;
    private static final int CALLS = 420;

    private final Checks checks;
    private final Random random;
    private final int seed;
    private final ServiceTree tree = new ServiceTree();
    private final Model model = new Model();
    private final StringBuilder story = new StringBuilder();
    private int most;
    private int longest;

    private ModelRunsTest(Checks checks, int seed) {
        this.checks = checks;
        this.seed = seed;
        this.random = new Random(seed);
    }

    public static void main(String[] args) {
        Checks checks = new Checks("ModelRunsTest");
        for (int seed = 0; seed < RUNS && checks.wrongSoFar() == 0; seed++) {
            new ModelRunsTest(checks, seed).run();
        }
        checks.end();
    }

    private void run() {
        most = seed % 10 == 9 ? 40 : 2 + random.nextInt(9);
        longest = new int[] {1, 3, 6, 50}[random.nextInt(4)];
        for (int i = 0; i < most; i++) {
            makeOne();
        }
        for (int i = 0; i < most * 2; i++) {
            relate();
        }
        if (seed % 2 == 0) {
            tellOfFailing();
        }
        for (int i = 0; i < CALLS && checks.wrongSoFar() == 0; i++) {
            callOne();
            compareAll();
        }
        if (checks.wrongSoFar() != 0) {
            System.out.println("seed " + seed + ":\n" + story);
        }
    }

    /** In these runs much fails and waits, which the calls by themselves seldom bring about. */
    private void tellOfFailing() {
        for (int s = 0; s < model.svc.size(); s++) {
            for (int i = 0; i < 8; i++) {
                int v = upTo(4 * longest);
                same("life(" + s + ", " + i + ", " + v + ")", tree.life(s, i, v), model.life(s, i, v));
            }
            int delay = 1 + upTo(Math.min(49, 3 * longest));
            same("again(" + s + ", " + delay + ", 8, 60)", tree.again(s, delay, 8, 60), model.again(s, delay, 8, 60));
        }
    }

    private int upTo(int n) {
        return random.nextInt(n + 1);
    }

    private int some() {
        return random.nextInt(60) == 0 ? upTo(45) - 2 : random.nextInt(most);
    }

    private void same(String call, int got, int want) {
        story.append(call).append(" = ").append(want).append('\n');
        checks.due("seed " + seed + " " + call, got, want);
    }

    private void makeOne() {
        int kind = random.nextInt(50) == 0 ? upTo(6) - 1 : upTo(3);
        int start = kind == 3 ? upTo(20) / 20 : upTo(longest);
        int stop = kind == 3 ? 0 : upTo(longest);
        same("make(" + kind + ", " + start + ", " + stop + ")", tree.make(kind, start, stop), model.make(kind, start, stop));
    }

    private void relate() {
        // Many NEEDS and BEHIND go to a lesser service, so that not all orders end in RING.
        int how = random.nextInt(80) == 0 ? upTo(6) - 1 : new int[] {0, 0, 0, 1, 1, 2, 2, 3}[random.nextInt(8)];
        int a = some();
        int b = some();
        if (how != 1 && random.nextInt(6) != 0 && a < b) {
            int c = a;
            a = b;
            b = c;
        }
        if (how == 3 && random.nextInt(3) != 0) {
            how = 1;
        }
        same("relation(" + how + ", " + a + ", " + b + ")", tree.relation(how, a, b), model.relation(how, a, b));
    }

    private void callOne() {
        int s = some();
        int how = random.nextInt(40) == 0 ? upTo(6) - 1 : upTo(2);
        int pick = random.nextInt(100);
        if (pick < 3) {
            makeOne();
        } else if (pick < 13) {
            int i = random.nextInt(30) == 0 ? upTo(12) - 2 : upTo(7);
            int v = random.nextInt(30) == 0 ? upTo(1200) - 100 : upTo(2 * longest + 2);
            same("life(" + s + ", " + i + ", " + v + ")", tree.life(s, i, v), model.life(s, i, v));
        } else if (pick < 19) {
            int delay = random.nextInt(30) == 0 ? upTo(60) - 5 : 1 + upTo(longest);
            int budget = random.nextInt(30) == 0 ? upTo(14) - 2 : upTo(random.nextInt(4) == 0 ? 10 : 4);
            int window = random.nextInt(30) == 0 ? upTo(220) - 10 : 1 + upTo(99);
            same("again(" + s + ", " + delay + ", " + budget + ", " + window + ")",
                tree.again(s, delay, budget, window), model.again(s, delay, budget, window));
        } else if (pick < 29) {
            relate();
        } else if (pick < 34) {
            int b = some();
            int h = upTo(3);
            same("undo(" + h + ", " + s + ", " + b + ")", tree.undo(h, s, b), model.undo(h, s, b));
        } else if (pick < 52) {
            same("order(" + how + ", " + s + ")", tree.order(how, s), model.order(how, s));
        } else if (pick < 66) {
            same("plan(" + how + ", " + s + ")", tree.plan(how, s), model.plan(how, s));
        } else if (pick < 88) {
            int n = random.nextInt(40) == 0 ? upTo(1100) - 50 : 1 + upTo(longest);
            same("tick(" + n + ")", tree.tick(n), model.tick(n));
        } else {
            same("letter(" + s + ")", tree.letter(s), model.letter(s));
        }
    }

    private void compareAll() {
        for (int s = -1; s <= model.svc.size(); s++) {
            for (int what = -1; what <= 10; what++) {
                due("about", s, what, tree.about(s, what), model.about(s, what));
            }
            for (int how = -1; how <= 2; how++) {
                due("waits", s, how, tree.waits(s, how), model.waits(s, how));
            }
        }
        for (int what = -1; what <= 6; what++) {
            due("in", what, 0, tree.in(what), model.in(what));
            due("count", what, 0, tree.count(what), model.count(what));
        }
        int jobs = model.lastPlan == null ? 0 : model.lastPlan.size();
        for (int i = -1; i <= jobs; i++) {
            for (int what = -1; what <= 4; what++) {
                due("planned", i, what, tree.planned(i, what), model.planned(i, what));
            }
        }
        due("quick", 0, 0, tree.quick(), model.quick());
        due("ring", 0, 0, tree.ring(), model.lastRing);
        due("changes", 0, 0, tree.changes(), model.log.size());
        due("check", 0, 0, tree.check(), 0);
        due("check of the model", 0, 0, model.check(), 0);
        compareSome();
    }

    private void compareSome() {
        int n = model.log.size();
        for (int k = 0; k < 12; k++) {
            int i = k < 8 ? n - k : k < 10 ? n - 2000 - 9 + k : random.nextInt(n + 1);
            for (int what = -1; what <= 3; what++) {
                due("change", i, what, tree.change(i, what), model.change(i, what));
            }
        }
        for (int k = 0; k < 6; k++) {
            int how = upTo(5) - 1;
            int a = some();
            int b = some();
            due("related " + how, a, b, tree.related(how, a, b), model.related(how, a, b));
        }
    }

    private void due(String call, int a, int b, int got, int want) {
        if (got != want) {
            checks.due("seed " + seed + " " + call + "(" + a + ", " + b + ")", got, want);
        }
    }
}
