/** Promises 7, 14 and 18: order, waits, ring. */
public final class OrdersTest {
    private static final Checks CHECKS = new Checks("OrdersTest");

    public static void main(String[] args) {
        wrongNumbers();
        startInOrder();
        startAtOnce();
        stopInContraryOrder();
        stopOfOneThatIsDown();
        wants();
        wantsLeastFirst();
        wantsThatClashOrRing();
        wantsAfterOneLeftOut();
        wantsBesideOneThatIsUp();
        againstIsStopped();
        isolate();
        startOfOneThatWaits();
        failedIsStartedAgain();
        busy();
        clashOfMembers();
        ringOfMembers();
        ringOfJobs();
        clashBeforeRing();
        fallsOut();
        stopThatFallsOut();
        stopOfOneThatWent();
        waitsToStop();
        CHECKS.end();
    }

    private static void due(String call, int got, int want) {
        CHECKS.due(call, got, want);
    }

    private static ServiceTree withServices(int n, int start, int stop) {
        ServiceTree x = new ServiceTree();
        for (int i = 0; i < n; i++) {
            x.make(0, start, stop);
        }
        return x;
    }

    private static void states(String when, ServiceTree x, int... want) {
        for (int s = 0; s < want.length; s++) {
            due(when + ": state of " + s, x.about(s, 0), want[s]);
        }
    }

    private static void wrongNumbers() {
        ServiceTree x = withServices(1, 1, 1);
        due("order(-1, 0)", x.order(-1, 0), -1);
        due("order(3, 0)", x.order(3, 0), -1);
        due("order(0, -1)", x.order(0, -1), -1);
        due("order(0, 1)", x.order(0, 1), -1);
        due("order(max, min)", x.order(Integer.MAX_VALUE, Integer.MIN_VALUE), -1);
        due("waits(-1, 0)", x.waits(-1, 0), -1);
        due("waits(1, 0)", x.waits(1, 0), -1);
        due("waits(0, -1)", x.waits(0, -1), -1);
        due("waits(0, 2)", x.waits(0, 2), -1);
        due("waits(0, 0): no JOB", x.waits(0, 0), 0);
        due("waits(0, 1): no JOB", x.waits(0, 1), 0);
        x.order(0, 0);
        due("NONE is before BUSY", x.order(3, 0), -1);
        due("NONE is before BUSY", x.order(0, 1), -1);
    }

    private static void startInOrder() {
        ServiceTree x = withServices(5, 2, 1);
        x.relation(0, 0, 1);
        x.relation(2, 0, 2);
        x.relation(0, 0, 2);
        x.relation(2, 1, 3);
        x.relation(1, 0, 3);
        due("order(0, 0)", x.order(0, 0), 4);
        states("now", x, 0, 0, 1, 1, 0);
        due("count(2)", x.count(2), 4);
        due("0 waits for 1 and 2, each once", x.waits(0, 0), 2);
        due("1 waits for 3", x.waits(1, 0), 1);
        due("for 3 waits 1", x.waits(3, 1), 1);
        due("for 2 waits 0", x.waits(2, 1), 1);
        due("2 waits for none", x.waits(2, 0), 0);
        due("for 0 waits none", x.waits(0, 1), 0);
        due("0 has a JOB to start", x.about(0, 5), 1);
        due("4 has none", x.about(4, 5), 0);
        x.tick(2);
        states("after 2", x, 0, 1, 2, 2, 0);
        due("0 waits for 1 alone", x.waits(0, 0), 1);
        due("2 is waited for no more", x.waits(2, 1), 0);
        due("count(2)", x.count(2), 2);
        x.tick(2);
        states("after 4", x, 1, 2, 2, 2, 0);
        x.tick(2);
        states("after 6", x, 2, 2, 2, 2, 0);
        due("count(2)", x.count(2), 0);
        due("again: none is left to start", x.order(0, 0), 0);
    }

    private static void startAtOnce() {
        ServiceTree x = withServices(3, 0, 0);
        x.relation(0, 0, 1);
        x.relation(0, 1, 2);
        due("order(0, 0)", x.order(0, 0), 3);
        states("now", x, 2, 2, 2);
        due("count(2)", x.count(2), 0);
        for (int i = 0; i < 3; i++) {
            due("change " + i, x.change(i, 1), 2 - i);
            due("its state", x.change(i, 2), 2);
        }
        due("order(1, 2)", x.order(1, 2), 3);
        states("now", x, 0, 0, 0);
        for (int i = 0; i < 3; i++) {
            due("change " + (3 + i), x.change(3 + i, 1), i);
        }
    }

    private static void stopInContraryOrder() {
        ServiceTree x = withServices(5, 0, 2);
        x.relation(0, 1, 0);
        x.relation(0, 2, 1);
        x.relation(2, 3, 0);
        for (int s = 0; s < 5; s++) {
            x.order(0, s);
        }
        due("order(1, 0)", x.order(1, 0), 3);
        states("now", x, 2, 2, 3, 2, 2);
        due("2 has a JOB to stop", x.about(2, 5), 2);
        due("3 is BEHIND 0, but gets none", x.about(3, 5), 0);
        due("0 waits for 1", x.waits(0, 0), 1);
        due("for 2 waits 1", x.waits(2, 1), 1);
        x.tick(4);
        states("after 4", x, 3, 0, 0, 2, 2);
        x.tick(2);
        states("after 6", x, 0, 0, 0, 2, 2);
        due("DOWN already", x.order(1, 0), 0);
        due("order(0, 2)", x.order(0, 2), 3);
        due("stopping 2 leaves what it NEEDS", x.order(1, 2), 1);
        x.tick(2);
        states("then", x, 2, 2, 0, 2, 2);
    }

    private static void stopOfOneThatIsDown() {
        ServiceTree x = withServices(3, 0, 0);
        x.relation(0, 1, 0);
        x.relation(0, 2, 1);
        x.life(0, 0, 3);
        x.life(1, 0, 2);
        x.again(1, 50, 9, 9);
        x.order(0, 1);
        x.tick(3);
        states("0 FAILED under 1, which is WAITING", x, 4, 5, 0);
        due("STOP of a FAILED one stops those WAITING that NEED it", x.order(1, 0), 1);
        states("WAITING is DOWN at once", x, 4, 0, 0);
    }

    private static void wants() {
        ServiceTree x = withServices(5, 1, 1);
        x.relation(1, 0, 1);
        x.relation(0, 1, 2);
        x.relation(1, 2, 3);
        x.relation(1, 4, 0);
        due("whom a member WANTS, what that NEEDS, whom that WANTS", x.order(0, 0), 4);
        due("WANTS is not waited for", x.waits(0, 0), 0);
        states("at once", x, 1, 0, 1, 1, 0);
        x.tick(2);
        states("then", x, 2, 2, 2, 2, 0);
        due("the one wanted is stopped alone", x.order(1, 3), 1);
        x.tick(1);
        states("then", x, 2, 2, 2, 0, 0);
        due("and wanted again", x.order(0, 0), 1);
    }

    private static void wantsLeastFirst() {
        ServiceTree x = withServices(4, 0, 0);
        x.relation(1, 3, 2);
        x.relation(1, 3, 1);
        x.relation(3, 1, 2);
        due("of two AGAINST each other the least one comes", x.order(0, 3), 2);
        states("then", x, 0, 2, 0, 2);
        ServiceTree y = withServices(4, 0, 0);
        y.relation(1, 1, 3);
        y.relation(1, 1, 2);
        y.relation(1, 2, 0);
        y.relation(3, 0, 3);
        due("0 is seen when 2 is a member, and is less than 3", y.order(0, 1), 3);
        states("then", y, 2, 2, 2, 0);
    }

    private static void wantsThatClashOrRing() {
        ServiceTree x = withServices(5, 1, 1);
        x.relation(1, 0, 1);
        x.relation(0, 1, 2);
        x.relation(3, 2, 0);
        x.relation(1, 0, 3);
        x.relation(2, 3, 4);
        x.relation(0, 4, 3);
        x.relation(0, 3, 4);
        due("nothing of those that clash or RING", x.order(0, 0), 1);
        states("then", x, 1, 0, 0, 0, 0);
        due("ring() is not told of it", x.ring(), 0);
        x.tick(1);
        due("2 UP means 0 is stopped", x.order(0, 1), 3);
        x.tick(4);
        states("then", x, 0, 2, 2, 0, 0);
        due("the wanted 1 NEEDS one AGAINST 0: it is left out, and both are stopped", x.order(0, 0), 3);
    }

    private static void wantsAfterOneLeftOut() {
        ServiceTree x = withServices(5, 0, 0);
        x.relation(1, 0, 1);
        x.relation(3, 0, 1);
        x.relation(1, 0, 2);
        x.relation(2, 2, 0);
        x.relation(2, 0, 2);
        x.relation(1, 0, 3);
        x.relation(1, 3, 4);
        due("1 clashes, 2 would RING, 3 and 4 come", x.order(0, 0), 3);
        states("then", x, 2, 0, 0, 2, 2);
    }

    private static void wantsBesideOneThatIsUp() {
        ServiceTree x = withServices(3, 0, 0);
        x.order(0, 0);
        x.relation(1, 0, 1);
        x.relation(2, 0, 1);
        x.relation(2, 1, 0);
        due("0 is UP, so 1 does not RING with it", x.order(0, 0), 1);
        states("then", x, 2, 2, 0);
    }

    private static void againstIsStopped() {
        ServiceTree x = withServices(5, 1, 2);
        x.relation(3, 0, 1);
        x.relation(0, 2, 1);
        x.relation(2, 3, 0);
        x.order(0, 2);
        x.tick(2);
        x.order(0, 4);
        x.tick(1);
        states("before", x, 0, 2, 2, 0, 2);
        due("order(0, 0)", x.order(0, 0), 3);
        states("now", x, 0, 2, 3, 0, 2);
        due("0 waits for the stop of 1", x.waits(0, 0), 1);
        due("1 waits for the stop of 2", x.waits(1, 0), 1);
        x.tick(3);
        states("after 3", x, 0, 3, 0, 0, 2);
        due("check()", x.check(), 0);
        x.tick(1);
        states("after 4", x, 1, 0, 0, 0, 2);
        x.tick(1);
        states("after 5", x, 2, 0, 0, 0, 2);
        due("the other way round", x.order(0, 2), 3);
        due("both 0 to stop and 1, 2 to start", x.about(0, 5) * 100 + x.about(1, 5) * 10 + x.about(2, 5), 211);
    }

    private static void isolate() {
        ServiceTree x = withServices(6, 0, 1);
        x.relation(0, 0, 1);
        x.relation(1, 0, 2);
        x.relation(0, 4, 3);
        x.relation(2, 3, 5);
        for (int s = 0; s < 6; s++) {
            x.order(0, s);
        }
        x.order(1, 2);
        x.tick(1);
        due("ISOLATE 0: 2 starts, 3, 4, 5 stop", x.order(2, 0), 4);
        states("now", x, 2, 2, 2, 2, 3, 2);
        x.tick(1);
        states("3 after 4", x, 2, 2, 2, 3, 0, 2);
        x.tick(1);
        states("5 after 3, which is BEHIND it", x, 2, 2, 2, 0, 0, 3);
        x.tick(1);
        due("ISOLATE again", x.order(2, 0), 0);
        due("ISOLATE of one that is DOWN", x.order(2, 5), 4);
        x.tick(2);
        states("then", x, 0, 0, 0, 0, 0, 2);
    }

    private static void startOfOneThatWaits() {
        ServiceTree x = withServices(2, 3, 0);
        x.life(0, 0, 1);
        x.again(0, 40, 3, 9);
        x.order(0, 0);
        x.tick(4);
        due("WAITING", x.about(0, 0), 5);
        int before = x.changes();
        due("order(0, 0)", x.order(0, 0), 1);
        due("two changes: DOWN", x.change(before, 2), 0);
        due("and STARTING", x.change(before + 1, 2), 1);
        due("no more", x.changes(), before + 2);
        x.tick(3);
        due("UP", x.about(0, 0), 2);
        x.life(0, 2, 1);
        x.order(1, 0);
        x.order(0, 0);
        x.tick(4);
        due("WAITING", x.about(0, 0), 5);
        due("ISOLATE of another: WAITING is stopped at once", x.order(2, 1), 2);
        due("DOWN", x.about(0, 0), 0);
        x.tick(50);
        due("its waiting has ended", x.about(0, 0), 0);
    }

    private static void failedIsStartedAgain() {
        ServiceTree x = withServices(1, 0, 0);
        x.life(0, 0, 1);
        x.order(0, 0);
        x.tick(1);
        due("STOP of a FAILED one", x.order(1, 0), 0);
        due("it stays FAILED", x.about(0, 0), 4);
        due("START", x.order(0, 0), 1);
        due("UP", x.about(0, 0), 2);
    }

    private static void busy() {
        ServiceTree x = withServices(3, 2, 2);
        x.relation(0, 1, 0);
        x.order(0, 2);
        for (int how = 0; how < 3; how++) {
            due("JOBS to start", x.order(how, 0), -3);
            due("JOBS to start", x.plan(how, 2), -3);
        }
        x.tick(2);
        x.life(0, 0, 3);
        x.again(0, 1, 1, 9);
        x.order(0, 1);
        x.tick(5);
        due("1 goes, without a JOB", x.about(1, 0) * 10 + x.count(2), 30);
        due("STOPPING", x.order(0, 2), -3);
        x.tick(1);
        due("0 is STARTING, without a JOB", x.about(0, 0) * 10 + x.count(2), 10);
        x.tick(1);
        due("1 is DOWN, 0 still STARTING", x.about(1, 0) * 10 + x.about(0, 0), 1);
        due("STARTING", x.order(1, 2), -3);
        x.tick(1);
        due("no more", x.order(1, 2), 1);
    }

    private static void clashOfMembers() {
        ServiceTree x = withServices(4, 0, 0);
        x.relation(0, 0, 1);
        x.relation(0, 0, 2);
        x.relation(3, 1, 2);
        due("START", x.order(0, 0), -4);
        due("ISOLATE", x.order(2, 0), -4);
        due("STOP asks for no members", x.order(1, 0), 0);
        due("plan", x.plan(0, 0), -4);
        due("nothing came of it", x.changes(), 0);
        x.relation(0, 3, 0);
        due("START of one that NEEDS it", x.order(0, 3), -4);
        ServiceTree y = withServices(2, 0, 0);
        y.relation(0, 0, 1);
        y.relation(3, 0, 1);
        due("one that it NEEDS and is AGAINST", y.order(0, 0), -4);
    }

    private static void ringOfMembers() {
        ServiceTree x = withServices(6, 1, 1);
        for (int s = 0; s < 5; s++) {
            x.relation(0, s, (s + 1) % 5);
        }
        due("a ring of five", x.order(0, 0), -5);
        due("ring()", x.ring(), 5);
        x.relation(2, 2, 0);
        due("plan with a shorter one", x.plan(2, 4), -5);
        due("ring()", x.ring(), 3);
        x.relation(2, 4, 3);
        due("order with a still shorter one", x.order(0, 1), -5);
        due("ring()", x.ring(), 2);
        x.relation(0, 5, 0);
        due("one that is in no ring, but NEEDS one of it", x.order(0, 5), -5);
        due("ring()", x.ring(), 2);
        x.undo(0, 5, 0);
        due("order that is not refused", x.order(0, 5), 1);
        due("ring() stays", x.ring(), 2);
        due("order refused otherwise", x.order(0, 0), -3);
        due("ring() stays", x.ring(), 2);
        upBreaksRing();
        letterKeepsRing();
        ringOfAll();
    }

    private static void ringOfAll() {
        ServiceTree x = withServices(40, 0, 0);
        for (int s = 0; s < 40; s++) {
            x.relation(s % 2 * 2, s, (s + 1) % 40);
            x.relation(0, 5, s);
        }
        due("many short ones", x.order(0, 5), -5);
        due("ring()", x.ring(), 2);
        for (int s = 0; s < 40; s++) {
            x.undo(0, 5, s);
        }
        x.relation(0, 5, 6);
        for (int s = 1; s < 40; s += 2) {
            x.undo(2, s, (s + 1) % 40);
            x.relation(0, s, (s + 1) % 40);
        }
        due("one of all forty", x.plan(2, 39), -5);
        due("ring()", x.ring(), 40);
    }

    private static void upBreaksRing() {
        ServiceTree x = withServices(3, 1, 1);
        x.order(0, 1);
        x.tick(1);
        x.relation(2, 0, 1);
        x.relation(2, 1, 2);
        x.relation(2, 2, 0);
        x.relation(0, 2, 0);
        due("1 is UP, so no ring of those that are not", x.order(0, 2), 2);
    }

    private static void letterKeepsRing() {
        ServiceTree x = new ServiceTree();
        x.make(2, 0, 0);
        x.make(0, 0, 0);
        x.relation(0, 0, 1);
        x.relation(0, 1, 0);
        due("letter", x.letter(0), 0);
        due("state", x.about(0, 0), 0);
        due("ring() is of order() and plan()", x.ring(), 0);
        due("order", x.order(0, 0), -5);
        due("ring()", x.ring(), 2);
    }

    private static void ringOfJobs() {
        ServiceTree x = withServices(4, 0, 1);
        for (int s = 0; s < 4; s++) {
            x.order(0, s);
        }
        for (int s = 0; s < 3; s++) {
            x.relation(2, s, (s + 1) % 3);
        }
        due("ISOLATE stops all three", x.order(2, 3), -5);
        due("ring()", x.ring(), 3);
        due("nothing came of it", x.in(2), 4);
        due("one alone", x.order(1, 1), 1);
        x.tick(1);
        due("two of them", x.order(2, 3), 2);
        x.tick(2);
        due("all in order", x.in(2), 1);
        ringOfStopsBesideStart();
    }

    private static void ringOfStopsBesideStart() {
        ServiceTree x = withServices(3, 0, 1);
        x.relation(3, 0, 1);
        x.relation(3, 0, 2);
        x.order(0, 1);
        x.order(0, 2);
        x.relation(2, 1, 2);
        x.relation(2, 2, 1);
        due("START 0 would stop 1 and 2, in a ring", x.order(0, 0), -5);
        due("ring()", x.ring(), 2);
        due("plan", x.plan(0, 0), -5);
        due("STOP 1", x.order(1, 1), 1);
        x.tick(1);
        due("START 0", x.order(0, 0), 2);
    }

    private static void clashBeforeRing() {
        ServiceTree x = withServices(3, 0, 0);
        x.relation(0, 0, 1);
        x.relation(0, 1, 0);
        x.relation(0, 0, 2);
        x.relation(3, 1, 2);
        due("both would refuse", x.order(0, 0), -4);
        due("ring()", x.ring(), 0);
        ServiceTree y = withServices(5, 0, 1);
        y.relation(0, 0, 1);
        y.relation(0, 1, 0);
        for (int s = 2; s < 5; s++) {
            y.order(0, s);
            y.relation(2, s, s == 4 ? 2 : s + 1);
        }
        due("both rings: that of members is told", y.order(2, 0), -5);
        due("ring()", y.ring(), 2);
    }

    private static void fallsOut() {
        ServiceTree x = withServices(4, 2, 0);
        x.relation(0, 1, 0);
        x.relation(2, 2, 1);
        x.relation(0, 3, 1);
        x.relation(1, 1, 2);
        x.relation(1, 1, 3);
        x.life(0, 0, 1);
        due("order(0, 1)", x.order(0, 1), 4);
        x.tick(2);
        states("0 is UP", x, 2, 1, 0, 0);
        x.tick(1);
        states("0 fails, 1 goes, 2 begins, the JOB of 3 falls out", x, 4, 0, 1, 0);
        due("count(2)", x.count(2), 1);
        due("3 has no JOB", x.about(3, 5), 0);
        due("1 did not become UP: no start", x.about(1, 2), 0);
    }

    private static void stopThatFallsOut() {
        ServiceTree x = withServices(4, 0, 3);
        x.relation(2, 1, 0);
        x.relation(2, 2, 0);
        x.life(0, 0, 1);
        for (int s = 0; s < 3; s++) {
            x.order(0, s);
        }
        due("ISOLATE 3", x.order(2, 3), 4);
        states("now", x, 2, 3, 3, 2);
        x.tick(1);
        states("0 fails", x, 4, 3, 3, 2);
        due("it still has its JOB", x.about(0, 5), 2);
        x.tick(2);
        states("the JOB falls out", x, 4, 0, 0, 2);
        due("count(2)", x.count(2), 0);
    }

    private static void stopOfOneThatWent() {
        // 0 has gone by itself, and is DOWN, before its JOB to stop may begin.
        ServiceTree x = new ServiceTree();
        x.make(0, 0, 1);
        x.make(0, 0, 0);
        x.make(0, 0, 4);
        x.make(0, 0, 0);
        x.relation(0, 0, 1);
        x.relation(2, 2, 0);
        x.life(1, 0, 1);
        x.order(0, 0);
        x.order(0, 2);
        due("ISOLATE 3", x.order(2, 3), 4);
        x.tick(2);
        states("0 went", x, 0, 4, 3, 2);
        due("its JOB waits still", x.about(0, 5), 2);
        int before = x.changes();
        x.tick(2);
        states("then", x, 0, 4, 0, 2);
        due("only 2 changed", x.changes(), before + 1);
        due("count(2)", x.count(2), 0);
    }

    private static void waitsToStop() {
        // 0 goes by itself while its JOB to stop waits: it goes on so, and the JOB ends with it.
        ServiceTree x = new ServiceTree();
        x.make(0, 0, 4);
        x.make(0, 0, 0);
        x.make(0, 0, 2);
        x.make(0, 0, 0);
        x.relation(0, 0, 1);
        x.relation(2, 2, 0);
        x.relation(3, 3, 1);
        x.relation(3, 3, 2);
        x.life(1, 0, 1);
        x.order(0, 0);
        x.order(0, 2);
        due("START 3 stops 0, 1, 2", x.order(0, 3), 4);
        states("now", x, 2, 2, 3, 0);
        x.tick(1);
        states("1 fails, 0 goes", x, 3, 4, 3, 0);
        x.tick(1);
        states("the JOB of 0 begins and goes on", x, 3, 4, 0, 0);
        due("0 has its JOB", x.about(0, 5), 2);
        due("1 waits for it", x.waits(0, 1), 1);
        due("3 waits for 1", x.waits(3, 0), 1);
        x.tick(2);
        states("not yet", x, 3, 4, 0, 0);
        x.tick(1);
        states("at 5, from 1 on", x, 0, 4, 0, 2);
        due("count(2)", x.count(2), 0);
    }
}
