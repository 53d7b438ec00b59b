import java.util.Set;
import java.util.TreeSet;

/**
 * Every number that the document bounds, in every call that takes it: the least and the greatest that are as said,
 * and the first on either side that is not, which is NONE and changes nothing.
 */
public final class RangesTest {
    private static final Checks CHECKS = new Checks("RangesTest");
    private static final String THREE = """
        make(0, 2, 2) = 0
        make(2, 1, 1) = 1
        make(2, 0, 1) = 2
        life(0, 0, 3) = 0
        again(0, 4, 2, 9) = 1
        relation(0, 1, 0) = 1
        relation(1, 2, 0) = 1
        """;

    public static void main(String[] args) {
        kindsAndTimesOfMake();
        numbersOfLife();
        numbersOfAgain();
        ticks();
        ordersAndPlans();
        relations();
        questions();
        jobsOfAPlan();
        changesOfState();
        servicesOfThree();
        servicesOfForty();
        noneForAnyService();
        CHECKS.end();
    }

    /** The call with ? from least to most: the answers that are due at both, and NONE beside them. */
    private static void range(String before, String call, int least, int dueAtLeast, int most, int dueAtMost) {
        story(before, call).row(with(call, least), dueAtLeast).end();
        story(before, call).row(with(call, most), dueAtMost).end();
        Story beside = story(before, call);
        for (int v : beside(least, most)) {
            beside.row(with(call, v), -1);
        }
        // What the refused ones might have changed has to show in what comes next.
        beside.row(with(call, most), dueAtMost).row("tick(9)", 9 + ticksOf(before, with(call, most))).end();
    }

    private static Story story(String before, String call) {
        return new Story(CHECKS, call).rows(before);
    }

    private static String with(String call, int v) {
        return call.replace("?", Integer.toString(v));
    }

    /** Far ones, too, which a mask or a shift could take for near ones. */
    private static Set<Integer> beside(int least, int most) {
        Set<Integer> all = new TreeSet<>();
        for (int step : new int[] {1, 32, 64, 256, 65536}) {
            all.add(least - step);
            all.add(most + step);
        }
        all.add(Integer.MIN_VALUE);
        all.add(Integer.MIN_VALUE + Math.max(0, least));
        all.add(Integer.MAX_VALUE);
        return all;
    }

    private static int ticksOf(String... rows) {
        int ticks = 0;
        for (String row : String.join("\n", rows).split("\n")) {
            if (row.contains("tick(")) {
                ticks += Integer.parseInt(row.substring(row.indexOf('(') + 1, row.indexOf(')')));
            }
        }
        return ticks;
    }

    private static void kindsAndTimesOfMake() {
        range(THREE, "make(?, 0, 0)", 0, 3, 3, 3);
        for (int kind = 0; kind <= 2; kind++) {
            range(THREE, "make(" + kind + ", ?, 7)", 0, 3, 50, 3);
            range(THREE, "make(" + kind + ", 7, ?)", 0, 3, 50, 3);
        }
        // START and STOP of a GROUP other than 0.
        range(THREE, "make(3, ?, 0)", 0, 3, 0, 3);
        range(THREE, "make(3, 0, ?)", 0, 3, 0, 3);
        Story.of(CHECKS, "two wrong ones at once", """
            make(3, 1, 1) = -1
            make(4, 51, 51) = -1
            make(-1, -1, -1) = -1
            make(0, 51, -1) = -1
            make(3, 0, 0) = 0
            """);
    }

    private static void numbersOfLife() {
        range(THREE, "life(0, ?, 5)", 0, 3, 7, 0);
        range(THREE, "life(0, 0, ?)", 0, 3, 1000, 3);
        range(THREE, "life(1, 7, ?)", 0, 0, 1000, 0);
    }

    private static void numbersOfAgain() {
        range(THREE, "again(0, ?, 1, 1)", 1, 1, 50, 1);
        range(THREE, "again(0, 1, ?, 1)", 0, 1, 10, 1);
        range(THREE, "again(0, 1, 1, ?)", 1, 1, 200, 1);
    }

    private static void ticks() {
        range(THREE, "tick(?)", 1, 1, 1000, 1000);
        range(THREE + "order(0, 1) = 2\n", "tick(?)", 1, 1, 1000, 1000);
    }

    private static void ordersAndPlans() {
        range(THREE, "order(?, 1)", 0, 2, 2, 2);
        range(THREE, "plan(?, 1)", 0, 2, 2, 2);
    }

    private static void relations() {
        range(THREE, "relation(?, 0, 2)", 0, 1, 3, 1);
        range(THREE, "undo(?, 1, 0)", 0, 1, 3, 0);
        range(THREE, "related(?, 1, 0)", 0, 1, 3, 0);
    }

    private static void questions() {
        range(THREE, "about(1, ?)", 0, 0, 9, 2);
        range(THREE, "in(?)", 0, 3, 5, 0);
        range(THREE, "count(?)", 0, 3, 5, 0);
        String started = THREE + "order(0, 1) = 2\n";
        range(started, "waits(1, ?)", 0, 1, 1, 0);
        range(started, "waits(0, ?)", 0, 0, 1, 1);
    }

    private static void jobsOfAPlan() {
        String planned = THREE + "plan(0, 1) = 2\n";
        range(planned, "planned(?, 0)", 0, 0, 1, 1);
        range(planned, "planned(?, 3)", 0, 2, 1, 3);
        range(planned, "planned(1, ?)", 0, 1, 3, 3);
    }

    private static void changesOfState() {
        // STARTING at 0, UP at 2, WAITING at 5.
        String failed = THREE + "order(0, 0) = 1\ntick(5) = 5\n";
        range(failed, "change(?, 2)", 0, 1, 2, 5);
        range(failed, "change(?, 0)", 0, 0, 2, 5);
        range(failed, "change(2, ?)", 0, 5, 2, 5);
    }

    private static void servicesOfThree() {
        range(THREE, "life(?, 0, 6)", 0, 3, 2, 0);
        range(THREE, "again(?, 1, 1, 1)", 0, 1, 2, 1);
        range(THREE, "relation(2, ?, 1)", 0, 1, 2, 1);
        range(THREE, "relation(2, 1, ?)", 0, 1, 2, 1);
        range(THREE, "undo(2, ?, 1)", 0, 0, 2, 0);
        range(THREE, "undo(2, 1, ?)", 0, 0, 2, 0);
        range(THREE, "order(0, ?)", 0, 1, 2, 2);
        range(THREE, "order(1, ?)", 0, 0, 2, 0);
        range(THREE, "order(2, ?)", 0, 1, 2, 2);
        range(THREE, "about(?, 9)", 0, 0, 2, 2);
        range(THREE, "related(0, 1, ?)", 0, 1, 2, 0);
        range(THREE, "related(1, ?, 1)", 0, 0, 2, 0);
        range(THREE, "waits(?, 0)", 0, 0, 2, 0);
        range(THREE, "waits(?, 1)", 0, 0, 2, 0);
        range(THREE, "plan(0, ?)", 0, 1, 2, 2);
        range(THREE, "plan(1, ?)", 0, 0, 2, 0);
        range(THREE, "plan(2, ?)", 0, 1, 2, 2);
        range("make(2, 1, 0) = 0\nmake(2, 1, 0) = 1\n", "letter(?)", 0, 0, 1, 0);
    }

    private static void servicesOfForty() {
        String forty = forty();
        range(forty, "life(?, 7, 1)", 0, 0, 39, 0);
        range(forty, "again(?, 50, 10, 200)", 0, 1, 39, 1);
        range(forty, "relation(0, ?, 20)", 0, 1, 39, 1);
        range(forty, "relation(3, 20, ?)", 0, 1, 39, 1);
        range(forty, "undo(0, ?, 20)", 0, 0, 39, 0);
        range(forty, "undo(3, 20, ?)", 0, 0, 39, 0);
        range(forty, "order(0, ?)", 0, 1, 39, 1);
        range(forty, "plan(2, ?)", 0, 1, 39, 1);
        range(forty, "letter(?)", 0, 0, 39, 0);
        range(forty, "about(?, 9)", 0, 2, 39, 2);
        range(forty, "about(?, 8)", 0, -1, 39, -1);
        range(forty, "related(0, ?, 20)", 0, 0, 39, 0);
        range(forty, "related(3, 20, ?)", 0, 0, 39, 0);
        range(forty, "waits(?, 0)", 0, 0, 39, 0);
    }

    private static String forty() {
        StringBuilder rows = new StringBuilder();
        for (int s = 0; s < 40; s++) {
            rows.append("make(2, 1, 1) = ").append(s).append('\n');
        }
        return rows.toString();
    }

    private static void noneForAnyService() {
        // Without a service no number is one of a service.
        String[] calls = {"life(?, 0, 0)", "again(?, 1, 0, 1)", "relation(0, ?, 0)", "relation(0, 0, ?)",
            "relation(3, ?, ?)", "undo(0, ?, 0)", "undo(0, 0, ?)", "order(0, ?)", "order(1, ?)", "order(2, ?)",
            "letter(?)", "about(?, 0)", "about(?, 9)", "related(0, ?, 0)", "related(0, 0, ?)", "waits(?, 0)",
            "waits(?, 1)", "plan(0, ?)", "plan(1, ?)", "plan(2, ?)"};
        for (String call : calls) {
            Story none = new Story(CHECKS, call);
            for (int v : new int[] {0, 1, -1, 39, 40, 64, Integer.MIN_VALUE, Integer.MAX_VALUE}) {
                none.row(with(call, v), -1);
            }
            none.end();
        }
    }
}
