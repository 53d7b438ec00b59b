/** Promises 15 to 17: plan, planned, quick. */
public final class PlansTest {
    private static final Checks CHECKS = new Checks("PlansTest");

    public static void main(String[] args) {
        beforeAny();
        ofStart();
        ofStop();
        ofIsolate();
        sorted();
        withoutJobs();
        refusedKeepsTheLatest();
        changesNothing();
        ofOneThatWaits();
        ofAll();
        CHECKS.end();
    }

    private static void due(String call, int got, int want) {
        CHECKS.due(call, got, want);
    }

    /** The JOBS of the latest PLAN, each as service, 1 or 2, begin, end. */
    private static void jobs(String when, ServiceTree x, int... want) {
        for (int k = 0; k < want.length; k++) {
            due(when + ": planned(" + k / 4 + ", " + k % 4 + ")", x.planned(k / 4, k % 4), want[k]);
        }
        for (int what = 0; what < 4; what++) {
            due(when + ": one more", x.planned(want.length / 4, what), -1);
        }
    }

    private static void beforeAny() {
        ServiceTree x = new ServiceTree();
        x.make(0, 1, 1);
        due("quick()", x.quick(), -1);
        jobs("before any", x);
        due("planned(-1, 0)", x.planned(-1, 0), -1);
        due("plan(-1, 0)", x.plan(-1, 0), -1);
        due("plan(3, 0)", x.plan(3, 0), -1);
        due("plan(0, -1)", x.plan(0, -1), -1);
        due("plan(0, 1)", x.plan(0, 1), -1);
        due("quick()", x.quick(), -1);
        x.order(0, 0);
        due("plan with JOBS", x.plan(0, 0), -3);
        due("an order is no PLAN", x.quick(), -1);
        due("NONE is before BUSY", x.plan(0, 1), -1);
    }

    private static void ofStart() {
        ServiceTree x = new ServiceTree();
        x.make(0, 5, 1);
        x.make(0, 2, 1);
        x.make(0, 3, 1);
        x.make(0, 0, 4);
        x.make(0, 7, 7);
        x.relation(0, 0, 1);
        x.relation(0, 0, 2);
        x.relation(2, 1, 2);
        x.relation(3, 2, 3);
        x.order(0, 3);
        x.life(2, 0, 1);
        due("plan(0, 0)", x.plan(0, 0), 4);
        jobs("ofStart", x, 3, 2, 0, 4, 2, 1, 4, 7, 1, 1, 7, 9, 0, 1, 9, 14);
        due("quick()", x.quick(), 14);
        due("planned(0, -1)", x.planned(0, -1), -1);
        due("planned(0, 4)", x.planned(0, 4), -1);
        due("planned(-1, 0)", x.planned(-1, 0), -1);
        due("planned(max, 0)", x.planned(Integer.MAX_VALUE, 0), -1);
        due("planned(min, 0)", x.planned(Integer.MIN_VALUE, 0), -1);
    }

    private static void ofStop() {
        ServiceTree x = new ServiceTree();
        x.make(0, 0, 1);
        x.make(0, 0, 5);
        x.make(0, 0, 3);
        x.make(0, 0, 2);
        x.relation(0, 1, 0);
        x.relation(0, 2, 0);
        x.relation(2, 3, 1);
        x.relation(0, 3, 2);
        x.order(0, 3);
        x.order(0, 1);
        x.tick(9);
        due("plan(1, 0)", x.plan(1, 0), 4);
        jobs("ofStop", x, 3, 2, 0, 2, 1, 2, 2, 7, 2, 2, 2, 5, 0, 2, 7, 8);
        due("quick()", x.quick(), 8);
        due("the same as order()", x.order(1, 0), 4);
        x.tick(7);
        due("not yet", x.count(2), 1);
        x.tick(1);
        due("as planned", x.count(2), 0);
    }

    private static void ofIsolate() {
        ServiceTree x = new ServiceTree();
        x.make(0, 2, 1);
        x.make(0, 0, 5);
        x.make(0, 0, 3);
        x.relation(3, 0, 2);
        x.order(0, 1);
        x.order(0, 2);
        due("plan(2, 0)", x.plan(2, 0), 3);
        jobs("ofIsolate", x, 1, 2, 0, 5, 2, 2, 0, 3, 0, 1, 3, 5);
        due("quick()", x.quick(), 5);
        due("plan(0, 0)", x.plan(0, 0), 2);
        jobs("ofIsolate, only START", x, 2, 2, 0, 3, 0, 1, 3, 5);
    }

    private static void sorted() {
        // START 0 all over: every JOB begins and ends at 0, told by the service, not by the order of beginning.
        ServiceTree x = new ServiceTree();
        for (int s = 0; s < 4; s++) {
            x.make(s == 3 ? 0 : 3, s == 3 ? 2 : 0, 0);
        }
        x.relation(0, 0, 1);
        x.relation(0, 1, 2);
        due("plan(0, 0)", x.plan(0, 0), 3);
        jobs("sorted", x, 0, 1, 0, 0, 1, 1, 0, 0, 2, 1, 0, 0);
        due("quick()", x.quick(), 0);
        x.relation(0, 2, 3);
        due("plan(0, 0)", x.plan(0, 0), 4);
        jobs("sorted", x, 3, 1, 0, 2, 0, 1, 2, 2, 1, 1, 2, 2, 2, 1, 2, 2);
        due("quick()", x.quick(), 2);
    }

    private static void withoutJobs() {
        ServiceTree x = new ServiceTree();
        x.make(0, 1, 1);
        due("plan(1, 0)", x.plan(1, 0), 0);
        due("quick()", x.quick(), 0);
        jobs("withoutJobs", x);
        due("plan(0, 0)", x.plan(0, 0), 1);
        due("quick()", x.quick(), 1);
        due("plan(1, 0)", x.plan(1, 0), 0);
        due("the latest one has none", x.quick(), 0);
        jobs("withoutJobs", x);
    }

    private static void refusedKeepsTheLatest() {
        ServiceTree x = new ServiceTree();
        for (int s = 0; s < 4; s++) {
            x.make(0, 4, 1);
        }
        x.relation(0, 0, 1);
        x.relation(0, 1, 0);
        x.relation(0, 2, 3);
        x.relation(3, 2, 3);
        due("plan(0, 3)", x.plan(0, 3), 1);
        due("RING", x.plan(0, 0), -5);
        due("CLASH", x.plan(0, 2), -4);
        due("NONE", x.plan(0, 9), -1);
        x.order(0, 3);
        due("BUSY", x.plan(1, 3), -3);
        jobs("refused", x, 3, 1, 0, 4);
        due("quick()", x.quick(), 4);
        x.tick(4);
        jobs("the PLAN stays as it was", x, 3, 1, 0, 4);
    }

    private static void changesNothing() {
        ServiceTree x = new ServiceTree();
        x.make(0, 0, 0);
        x.make(0, 0, 0);
        x.life(0, 0, 1);
        x.again(0, 9, 1, 9);
        x.order(0, 0);
        x.tick(1);
        int before = x.changes();
        due("plan(0, 0) of one that is WAITING", x.plan(0, 0), 1);
        jobs("changesNothing", x, 0, 1, 0, 0);
        due("it is WAITING still", x.about(0, 0), 5);
        due("changes()", x.changes(), before);
        due("count(2)", x.count(2), 0);
        due("plan(0, 1)", x.plan(0, 1), 1);
        due("state", x.about(1, 0), 0);
    }

    private static void ofOneThatWaits() {
        // 0 is WAITING with DELAY 3, since now; 1, BEHIND it, takes so many ticks to stop.
        due("WAITING: DOWN at once", endOfStop(0), 0);
        due("WAITING still when its JOB begins", endOfStop(2), 2);
        due("it has woken by then, so it takes STOP ticks", endOfStop(3), 3 + 7);
    }

    private static int endOfStop(int stopOfOther) {
        ServiceTree x = new ServiceTree();
        x.make(0, 9, 7);
        x.make(0, 0, stopOfOther);
        x.make(0, 0, 0);
        x.relation(2, 1, 0);
        x.life(0, 0, 1);
        x.again(0, 3, 1, 9);
        x.order(0, 0);
        x.tick(10);
        x.order(0, 1);
        x.order(0, 2);
        due("plan(2, 2)", x.plan(2, 2), 2);
        int end = -1;
        for (int i = 0; i < 2; i++) {
            end = x.planned(i, 0) == 0 ? x.planned(i, 3) : end;
        }
        due("order(2, 2)", x.order(2, 2), 2);
        int ticks = 0;
        while (x.about(0, 5) != 0 && ticks < 100) {
            x.tick(1);
            ticks++;
        }
        due("as planned", ticks, end);
        return end;
    }

    private static void ofAll() {
        // A chain of all forty, the longest PLAN that there can be.
        ServiceTree x = new ServiceTree();
        for (int s = 0; s < 40; s++) {
            x.make(0, 50, 50);
            if (s > 0) {
                x.relation(0, s, s - 1);
            }
        }
        due("plan(0, 39)", x.plan(0, 39), 40);
        due("quick()", x.quick(), 2000);
        for (int i = 0; i < 40; i++) {
            due("service of " + i, x.planned(i, 0), i);
            due("begin of " + i, x.planned(i, 2), 50 * i);
        }
        due("order(0, 39)", x.order(0, 39), 40);
        due("waits(0, 1)", x.waits(0, 1), 1);
        x.tick(1000);
        x.tick(999);
        due("in(2)", x.in(2), 39);
        x.tick(1);
        due("in(2)", x.in(2), 40);
        due("plan(1, 0)", x.plan(1, 0), 40);
        due("the last one first", x.planned(0, 0), 39);
        due("quick()", x.quick(), 2000);
    }
}
