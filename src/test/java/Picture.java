import java.util.ArrayList;
import java.util.List;

/** All that an object answers to questions, row by row, so that it can be seen whether a call changed anything. */
final class Picture {
    private static final int LATEST = 60;

    private final List<String> rows = new ArrayList<>();

    Picture(ServiceTree x, boolean withRing) {
        for (int what = 0; what <= 5; what++) {
            row("count(" + what + ")", x.count(what));
            row("in(" + what + ")", x.in(what));
        }
        int n = x.count(0);
        for (int s = 0; s <= n; s++) {
            service(x, s, n);
        }
        plan(x);
        history(x);
        row("check()", x.check());
        if (withRing) {
            row("ring()", x.ring());
        }
    }

    private void service(ServiceTree x, int s, int n) {
        for (int what = 0; what <= 9; what++) {
            row("about(" + s + ", " + what + ")", x.about(s, what));
        }
        row("waits(" + s + ", 0)", x.waits(s, 0));
        row("waits(" + s + ", 1)", x.waits(s, 1));
        for (int how = 0; how <= 3; how++) {
            for (int other = 0; other < n; other++) {
                row("related(" + how + ", " + s + ", " + other + ")", x.related(how, s, other));
            }
        }
    }

    private void plan(ServiceTree x) {
        row("quick()", x.quick());
        for (int i = 0; i <= 40; i++) {
            for (int what = 0; what <= 3; what++) {
                row("planned(" + i + ", " + what + ")", x.planned(i, what));
            }
        }
    }

    private void history(ServiceTree x) {
        int n = x.changes();
        row("changes()", n);
        for (int i = Math.max(0, n - LATEST); i <= n; i++) {
            for (int what = 0; what <= 2; what++) {
                row("change(" + i + ", " + what + ")", x.change(i, what));
            }
        }
        row("change(0, 0)", x.change(0, 0));
    }

    private void row(String call, int answer) {
        rows.add(call + " = " + answer);
    }

    /** The first row that is not in both; null if they are the same. */
    String differsFrom(Picture other) {
        for (int i = 0; i < Math.max(rows.size(), other.rows.size()); i++) {
            String mine = i < rows.size() ? rows.get(i) : "nothing";
            String its = i < other.rows.size() ? other.rows.get(i) : "nothing";
            if (!mine.equals(its)) {
                return mine + ", not " + its;
            }
        }
        return null;
    }
}
