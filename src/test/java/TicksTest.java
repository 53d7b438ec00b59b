/** Promise 8: tick, and what happens in one. */
public final class TicksTest {
    private static final Checks CHECKS = new Checks("TicksTest");

    public static void main(String[] args) {
        counting();
        startAndStop();
        leastFirst();
        once();
        wakes();
        wakeFails();
        wakeSeesLesserOnesFirst();
        going();
        goingLeastFirst();
        goingOfOneThatStarts();
        jobsAfterGoing();
        wokenBesideAStop();
        CHECKS.end();
    }

    private static void due(String call, int got, int want) {
        CHECKS.due(call, got, want);
    }

    private static void states(String when, ServiceTree x, int... want) {
        for (int s = 0; s < want.length; s++) {
            due(when + ": state of " + s, x.about(s, 0), want[s]);
        }
    }

    /** The changes from the i-th on, each as tick, service, state. */
    private static void changesFrom(String when, ServiceTree x, int i, int... want) {
        for (int k = 0; k < want.length; k++) {
            due(when + ": change " + (i + k / 3) + ", " + k % 3, x.change(i + k / 3, k % 3), want[k]);
        }
        due(when + ": changes()", x.changes(), i + want.length / 3);
    }

    private static void counting() {
        ServiceTree x = new ServiceTree();
        due("tick(1)", x.tick(1), 1);
        due("tick(1000)", x.tick(1000), 1001);
        due("tick(1001)", x.tick(1001), -1);
        due("tick(0)", x.tick(0), -1);
        due("tick(-1)", x.tick(-1), -1);
        due("tick(min)", x.tick(Integer.MIN_VALUE), -1);
        due("tick(max)", x.tick(Integer.MAX_VALUE), -1);
        due("count(3)", x.count(3), 1001);
        for (int i = 0; i < 500; i++) {
            x.tick(1000);
        }
        due("count(3)", x.count(3), 501001);
    }

    private static void startAndStop() {
        ServiceTree x = new ServiceTree();
        x.make(0, 50, 49);
        x.tick(3);
        x.order(0, 0);
        due("STARTING since 3", x.about(0, 1), 3);
        x.tick(49);
        due("49 ticks in it", x.about(0, 0), 1);
        x.tick(1);
        due("50 ticks", x.about(0, 0), 2);
        due("UP since 53", x.about(0, 1), 53);
        x.order(1, 0);
        x.tick(48);
        due("48 ticks of STOP", x.about(0, 0), 3);
        x.tick(1);
        due("49", x.about(0, 0), 0);
        changesFrom("startAndStop", x, 0, 3, 0, 1, 53, 0, 2, 53, 0, 3, 102, 0, 0);
    }

    private static void leastFirst() {
        ServiceTree x = new ServiceTree();
        for (int s = 0; s < 4; s++) {
            x.make(0, 2, 0);
        }
        x.make(3, 0, 0);
        for (int s = 0; s < 4; s++) {
            x.relation(0, 4, s);
        }
        due("order(0, 4)", x.order(0, 4), 5);
        x.tick(2);
        changesFrom("leastFirst", x, 0, 0, 0, 1, 0, 1, 1, 0, 2, 1, 0, 3, 1,
            2, 0, 2, 2, 1, 2, 2, 2, 2, 2, 3, 2, 2, 4, 2);
    }

    private static void once() {
        ServiceTree x = new ServiceTree();
        x.make(1, 0, 0);
        x.make(0, 0, 0);
        x.relation(0, 1, 0);
        x.life(0, 0, 4);
        x.again(0, 1, 5, 5);
        x.order(0, 1);
        x.tick(3);
        due("not ENDED yet", x.about(0, 4), 0);
        int before = x.changes();
        x.tick(1);
        due("ENDED", x.about(0, 4), 1);
        due("it stays UP", x.about(0, 0), 2);
        due("since it became UP", x.about(0, 1), 0);
        due("what NEEDS it stays", x.about(1, 0), 2);
        due("no change of STATE", x.changes(), before);
        due("no failure", x.about(0, 3), 0);
        x.tick(100);
        due("still", x.about(0, 4) * 10 + x.about(0, 0), 12);
        x.order(1, 0);
        due("DOWN: not ENDED since it is UP", x.about(0, 4), 0);
        x.order(0, 0);
        x.tick(50);
        due("its second start has LIFE 0", x.about(0, 4), 0);
    }

    private static void wakes() {
        ServiceTree x = new ServiceTree();
        x.make(0, 2, 1);
        x.life(0, 0, 1);
        x.life(0, 1, 1);
        x.again(0, 3, 2, 200);
        x.order(0, 0);
        x.tick(20);
        changesFrom("wakes", x, 0, 0, 0, 1, 2, 0, 2, 3, 0, 5, 6, 0, 1, 8, 0, 2, 9, 0, 5, 12, 0, 1, 14, 0, 2);
        due("no JOB was made of it", x.count(2), 0);
        due("failures", x.about(0, 3), 2);
        due("starts", x.about(0, 2), 3);
    }

    private static void wakeFails() {
        ServiceTree x = new ServiceTree();
        x.make(0, 0, 0);
        x.make(0, 0, 0);
        x.relation(0, 1, 0);
        x.life(1, 0, 1);
        x.life(0, 0, 2);
        x.again(1, 2, 1, 9);
        x.order(0, 1);
        x.tick(2);
        states("0 FAILED, 1 WAITING", x, 4, 5);
        x.tick(1);
        states("what 1 NEEDS is not UP", x, 4, 4);
        due("1 became WAITING and FAILED", x.about(1, 3), 2);
        due("at 3", x.about(1, 1), 3);
        changesFrom("wakeFails", x, 0, 0, 0, 2, 0, 1, 2, 1, 1, 5, 2, 0, 4, 3, 1, 4);
    }

    private static void wakeSeesLesserOnesFirst() {
        // Both are WAITING and wake at the same tick: the needed one must be the lesser to be UP in time.
        due("NEEDS a lesser one", wakeTogether(1, 0), 2);
        due("NEEDS a greater one", wakeTogether(0, 1), 4);
    }

    private static int wakeTogether(int needer, int needed) {
        ServiceTree x = new ServiceTree();
        x.make(0, 0, 0);
        x.make(0, 0, 0);
        x.relation(0, needer, needed);
        x.life(0, 0, 1);
        x.life(1, 0, 1);
        x.again(0, 1, 1, 1);
        x.again(1, 1, 1, 1);
        x.order(0, needer);
        x.tick(2);
        return x.about(needer, 0);
    }

    private static void going() {
        ServiceTree x = new ServiceTree();
        x.make(0, 0, 0);
        x.make(0, 0, 2);
        x.make(0, 0, 3);
        x.make(0, 0, 0);
        x.relation(0, 1, 0);
        x.relation(0, 2, 1);
        x.relation(1, 3, 0);
        x.relation(2, 3, 0);
        x.life(0, 0, 1);
        x.order(0, 2);
        x.order(0, 3);
        x.tick(1);
        states("all that NEED go at once, those that WANT stay", x, 4, 3, 3, 2);
        due("check()", x.check(), 0);
        due("no failure", x.about(1, 3), 0);
        x.tick(2);
        states("then", x, 4, 0, 3, 2);
        x.tick(1);
        states("then", x, 4, 0, 0, 2);
    }

    private static void goingLeastFirst() {
        // 3 fails; 2 and 4 NEED it, 0 NEEDS 4, 1 NEEDS 2.
        ServiceTree x = new ServiceTree();
        for (int s = 0; s < 5; s++) {
            x.make(0, 0, s == 4 ? 1 : 0);
        }
        x.relation(0, 2, 3);
        x.relation(0, 4, 3);
        x.relation(0, 0, 4);
        x.relation(0, 1, 2);
        x.life(3, 0, 1);
        x.order(0, 0);
        x.order(0, 1);
        int before = x.changes();
        x.tick(1);
        changesFrom("goingLeastFirst", x, before, 1, 3, 4, 1, 2, 0, 1, 1, 0, 1, 4, 3, 1, 0, 0);
    }

    private static void goingOfOneThatStarts() {
        ServiceTree x = new ServiceTree();
        x.make(0, 0, 0);
        x.make(0, 9, 2);
        x.relation(0, 1, 0);
        x.life(0, 0, 3);
        x.order(0, 1);
        x.tick(3);
        states("STARTING without what it NEEDS", x, 4, 3);
        due("its JOB has ended", x.count(2), 0);
        x.tick(2);
        states("then", x, 4, 0);
        due("starts", x.about(1, 2), 0);
    }

    private static void jobsAfterGoing() {
        // At tick 2 both 0 becomes UP, for which 1 waits, and 2, which 1 NEEDS too, fails.
        ServiceTree x = new ServiceTree();
        x.make(0, 2, 0);
        x.make(0, 1, 0);
        x.make(0, 0, 0);
        x.relation(0, 1, 0);
        x.relation(0, 1, 2);
        x.life(2, 0, 2);
        due("order(0, 1)", x.order(0, 1), 3);
        x.tick(2);
        states("the JOB falls out", x, 2, 0, 4);
        due("count(2)", x.count(2), 0);
    }

    private static void wokenBesideAStop() {
        // 0 wakes while its JOB to stop waits for 1, which is BEHIND it: then it is stopped as one that starts.
        ServiceTree x = new ServiceTree();
        x.make(0, 9, 2);
        x.make(0, 0, 4);
        x.make(0, 0, 0);
        x.relation(2, 1, 0);
        x.relation(3, 2, 0);
        x.life(0, 0, 1);
        x.again(0, 3, 1, 9);
        x.order(0, 0);
        x.tick(10);
        x.order(0, 1);
        due("ISOLATE 2", x.order(2, 2), 3);
        states("now", x, 5, 3, 0);
        x.tick(3);
        states("0 wakes", x, 1, 3, 0);
        x.tick(1);
        states("0 stops", x, 3, 0, 0);
        due("its start did not count", x.about(0, 2), 1);
        x.tick(2);
        states("2 starts", x, 0, 0, 2);
        due("check()", x.check(), 0);
    }
}
