import java.util.ArrayList;
import java.util.List;

/**
 * The latest PLAN of an object, held against the document by what related() answers, and, tick by tick, against what
 * becomes of the order that it is of.
 */
final class Course {
    private static final int UP = 2, WAITING = 5;
    private static final int TO_START = 1;

    private static final class Job {
        int s;
        boolean starts;
        int begin;
        int end;
        boolean waited;
    }

    private final Checks checks;
    private final String name;
    private final ServiceTree tree;
    private final List<Job> jobs = new ArrayList<>();

    Course(Checks checks, String name, ServiceTree tree) {
        this.checks = checks;
        this.name = name;
        this.tree = tree;
        for (int i = 0; tree.planned(i, 0) >= 0; i++) {
            Job job = new Job();
            job.s = tree.planned(i, 0);
            job.starts = tree.planned(i, 1) == TO_START;
            job.begin = tree.planned(i, 2);
            job.end = tree.planned(i, 3);
            job.waited = !job.starts && tree.about(job.s, 0) == WAITING;
            jobs.add(job);
        }
    }

    int size() {
        return jobs.size();
    }

    boolean stopsWaiting() {
        return jobs.stream().anyMatch(job -> job.waited);
    }

    /** Whether one that was WAITING takes ticks to stop, as its DELAY is over before its JOB begins. */
    boolean stopsWoken() {
        return jobs.stream().anyMatch(job -> job.waited && job.end > job.begin);
    }

    /** To be asked before the order is given. */
    void planIsRight(Journal journal) {
        int last = 0;
        for (int i = 0; i < jobs.size(); i++) {
            Job job = jobs.get(i);
            Journal.Page page = journal.pages.get(job.s);
            that("JOBS begin as soon as may be: " + job.s, job.begin == latestEnd(awaitedBy(job)));
            boolean fromWaiting = job.waited && job.end == job.begin;
            that("JOBS take their ticks: " + job.s,
                fromWaiting || job.end == job.begin + (job.starts ? page.start : page.stop));
            that("only what is UP or WAITING is stopped: " + job.s, job.starts || page.state == UP || page.state == WAITING);
            that("what is UP is not started: " + job.s, !job.starts || page.state != UP);
            if (i > 0) {
                Job before = jobs.get(i - 1);
                that("sorted", before.begin < job.begin || before.begin == job.begin && before.s < job.s);
            }
            last = Math.max(last, job.end);
        }
        that("quick()", tree.quick() == last);
    }

    /** What the order has come to after so many ticks, if nothing has failed meanwhile. */
    void isAt(int ticks) {
        int left = 0;
        for (Job job : jobs) {
            boolean ended = ticks >= job.end;
            left += ended ? 0 : 1;
            int kind = job.starts ? 1 : 2;
            that("JOB of " + job.s + " at " + ticks, tree.about(job.s, 5) == (ended ? 0 : kind));
            that("STATE of " + job.s + " at " + ticks, stateIsRight(job, ticks, tree.about(job.s, 0)));
            that("for how many " + job.s + " waits at " + ticks, tree.waits(job.s, 0) == leftOf(awaitedBy(job), ticks));
            that("how many wait for " + job.s + " at " + ticks, tree.waits(job.s, 1) == leftOf(awaiting(job), ticks, job));
        }
        that("JOBS left at " + ticks, tree.count(2) == left);
    }

    private static boolean stateIsRight(Job job, int ticks, int state) {
        boolean awake = state == 1 || state == UP || state == WAITING;
        if (ticks < job.begin) {
            return awake != job.starts;
        }
        if (ticks < job.end) {
            return state == (job.starts ? 1 : 3);
        }
        return state == (job.starts ? UP : 0);
    }

    private boolean related(int how, int a, int b) {
        return tree.related(how, a, b) == 1;
    }

    private boolean waits(Job job, Job other) {
        if (job.starts) {
            return other.starts ? related(0, job.s, other.s) || related(2, job.s, other.s) : related(3, job.s, other.s);
        }
        return !other.starts && (related(0, other.s, job.s) || related(2, other.s, job.s));
    }

    private List<Job> awaitedBy(Job job) {
        List<Job> all = new ArrayList<>(jobs);
        all.removeIf(other -> !waits(job, other));
        return all;
    }

    private List<Job> awaiting(Job job) {
        List<Job> all = new ArrayList<>(jobs);
        all.removeIf(other -> !waits(other, job));
        return all;
    }

    private static int latestEnd(List<Job> some) {
        int latest = 0;
        for (Job job : some) {
            latest = Math.max(latest, job.end);
        }
        return latest;
    }

    private static int leftOf(List<Job> some, int ticks) {
        int n = 0;
        for (Job job : some) {
            n += ticks < job.end ? 1 : 0;
        }
        return n;
    }

    /** Those that wait for a JOB: all of them until it ends, none from then on. */
    private static int leftOf(List<Job> some, int ticks, Job awaited) {
        return ticks < awaited.end ? some.size() : 0;
    }

    private void that(String what, boolean holds) {
        checks.that(name + ": " + what, holds);
    }
}
