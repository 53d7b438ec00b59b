import java.util.Set;

/**
 * A run of calls on a new object, told as text: a row for each call with the answer that is due, "make(0, 2, 1) = 0".
 * min and max stand for the least and the greatest int; what follows a # says why.
 *
 * There are two objects. A call that is refused comes to one of them alone: all that can be asked of it must be the
 * same after it as before, and whatever the rows after it bring about must be the same on both, so that a LIFE, a
 * BUDGET or a LETTER, of which nothing can be asked, is not changed either. Only ring() tells of an order or a PLAN
 * that was refused with RING. A question must change nothing at all. After every row check() must be 0.
 */
final class Story {
    private static final Set<String> QUESTIONS = Set.of("about", "in", "count", "related", "waits", "planned", "quick",
        "ring", "changes", "change", "check");

    private final Checks checks;
    private final String name;
    private final ServiceTree told = new ServiceTree();
    private final ServiceTree spared = new ServiceTree();
    private boolean ringTold;

    Story(Checks checks, String name) {
        this.checks = checks;
        this.name = name;
    }

    static void of(Checks checks, String name, String rows) {
        new Story(checks, name).rows(rows).end();
    }

    Story rows(String rows) {
        for (String row : rows.split("\n")) {
            String bare = row.replaceAll("#.*", "").trim();
            if (!bare.isEmpty()) {
                int equals = bare.indexOf('=');
                row(bare.substring(0, equals).trim(), Integer.parseInt(bare.substring(equals + 1).trim()));
            }
        }
        return this;
    }

    Story row(String call, int want) {
        boolean question = QUESTIONS.contains(call.substring(0, call.indexOf('(')));
        if (question || want < 0) {
            boolean ringMoves = !question && want == ServiceTree.RING;
            ringTold |= ringMoves;
            Picture before = new Picture(told, !ringMoves);
            checks.due(name + ": " + call, answer(told, call), want);
            same(call + " changes nothing", new Picture(told, !ringMoves), before);
        } else {
            checks.due(name + ": " + call, answer(told, call), want);
            checks.due(name + ", without what is refused: " + call, answer(spared, call), want);
        }
        checks.due(name + ": check() after " + call, told.check(), 0);
        return this;
    }

    /** The STATES of the services from 0 on. */
    Story states(int... want) {
        for (int s = 0; s < want.length; s++) {
            checks.due(name + ": state of " + s + " at tick " + told.count(3), told.about(s, 0), want[s]);
        }
        return this;
    }

    /** All the changes from the i-th on, each as tick, service, STATE. */
    Story changesFrom(int i, int... want) {
        for (int k = 0; k < want.length; k++) {
            row("change(" + (i + k / 3) + ", " + k % 3 + ")", want[k]);
        }
        return row("changes()", i + want.length / 3);
    }

    /** All the JOBS of the latest PLAN, each as service, 1 or 2, begin, end. */
    Story planned(int... want) {
        for (int k = 0; k < want.length; k++) {
            row("planned(" + k / 4 + ", " + k % 4 + ")", want[k]);
        }
        return row("planned(" + want.length / 4 + ", 0)", -1);
    }

    void end() {
        same("what was refused changed nothing", new Picture(told, !ringTold), new Picture(spared, !ringTold));
    }

    private void same(String what, Picture got, Picture want) {
        String difference = got.differsFrom(want);
        checks.that(name + ": " + what + (difference == null ? "" : ", but " + difference), difference == null);
    }

    private static int answer(ServiceTree x, String call) {
        int open = call.indexOf('(');
        String inside = call.substring(open + 1, call.indexOf(')')).trim();
        String[] words = inside.isEmpty() ? new String[0] : inside.split(",");
        int[] v = new int[4];
        for (int i = 0; i < words.length; i++) {
            v[i] = number(words[i].trim());
        }
        return answer(x, call.substring(0, open), v);
    }

    private static int number(String word) {
        switch (word) {
            case "min": return Integer.MIN_VALUE;
            case "max": return Integer.MAX_VALUE;
            default: return Integer.parseInt(word);
        }
    }

    private static int answer(ServiceTree x, String method, int[] v) {
        switch (method) {
            case "make": return x.make(v[0], v[1], v[2]);
            case "life": return x.life(v[0], v[1], v[2]);
            case "again": return x.again(v[0], v[1], v[2], v[3]);
            case "relation": return x.relation(v[0], v[1], v[2]);
            case "undo": return x.undo(v[0], v[1], v[2]);
            case "order": return x.order(v[0], v[1]);
            case "tick": return x.tick(v[0]);
            case "letter": return x.letter(v[0]);
            case "about": return x.about(v[0], v[1]);
            case "in": return x.in(v[0]);
            case "count": return x.count(v[0]);
            case "related": return x.related(v[0], v[1], v[2]);
            case "waits": return x.waits(v[0], v[1]);
            case "plan": return x.plan(v[0], v[1]);
            case "planned": return x.planned(v[0], v[1]);
            case "quick": return x.quick();
            case "ring": return x.ring();
            case "changes": return x.changes();
            case "change": return x.change(v[0], v[1]);
            case "check": return x.check();
            default: throw new IllegalArgumentException("no such call: " + method);
        }
    }
}
