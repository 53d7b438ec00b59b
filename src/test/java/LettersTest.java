/** Promise 9: letter, and how LETTERS are read. */
public final class LettersTest {
    private static final Checks CHECKS = new Checks("LettersTest");

    public static void main(String[] args) {
        refused();
        wakesWhatIsDown();
        startIsRefused();
        onlyWhatIsDown();
        numberedOverAllDoors();
        full();
        readsOneATick();
        CHECKS.end();
    }

    private static void due(String call, int got, int want) {
        CHECKS.due(call, got, want);
    }

    private static void refused() {
        ServiceTree x = new ServiceTree();
        x.make(0, 0, 0);
        x.make(1, 0, 0);
        x.make(2, 0, 0);
        x.make(3, 0, 0);
        due("letter(-1)", x.letter(-1), -1);
        due("letter(4)", x.letter(4), -1);
        due("letter(0)", x.letter(0), -2);
        due("letter(1)", x.letter(1), -2);
        due("letter(3)", x.letter(3), -2);
        due("count(4)", x.count(4), 0);
        due("letter(2)", x.letter(2), 0);
        due("a PLAIN one has none", x.about(0, 6), 0);
        due("nor read any", x.about(0, 7), 0);
        due("nor one last", x.about(0, 8), -1);
    }

    private static void wakesWhatIsDown() {
        ServiceTree x = new ServiceTree();
        x.make(2, 2, 0);
        x.make(0, 1, 0);
        x.make(0, 0, 1);
        x.relation(0, 0, 1);
        x.relation(3, 0, 2);
        x.order(0, 2);
        due("letter(0)", x.letter(0), 0);
        due("it has JOBS, with what it NEEDS and is AGAINST", x.count(2), 3);
        due("1 is STARTING", x.about(1, 0), 1);
        due("2 is STOPPING", x.about(2, 0), 3);
        x.tick(1);
        due("0 is STARTING", x.about(0, 0), 1);
        due("not read yet", x.about(0, 6), 1);
        x.tick(2);
        due("UP, and read in the same tick", x.about(0, 7), 1);
        due("the last one", x.about(0, 8), 0);
        due("none lies there", x.about(0, 6), 0);
    }

    private static void startIsRefused() {
        ServiceTree x = new ServiceTree();
        x.make(2, 0, 0);
        x.make(0, 5, 0);
        x.order(0, 1);
        due("BUSY, but the LETTER has come", x.letter(0), 0);
        due("it stays DOWN", x.about(0, 0), 0);
        due("with a LETTER", x.about(0, 6), 1);
        x.tick(5);
        due("the LETTER does not wake it later", x.about(0, 0), 0);
        due("the next one does", x.letter(0), 1);
        due("UP", x.about(0, 0), 2);
        due("not read before a tick", x.about(0, 6), 2);
        ServiceTree y = new ServiceTree();
        y.make(2, 0, 0);
        y.make(0, 0, 0);
        y.relation(0, 0, 1);
        y.relation(3, 0, 1);
        due("CLASH", y.letter(0), 0);
        due("DOWN", y.about(0, 0), 0);
        due("nothing changed", y.changes(), 0);
    }

    private static void onlyWhatIsDown() {
        ServiceTree x = new ServiceTree();
        x.make(2, 0, 3);
        x.life(0, 0, 1);
        x.life(0, 1, 1);
        x.again(0, 5, 1, 100);
        x.order(0, 0);
        x.tick(1);
        due("WAITING", x.about(0, 0), 5);
        due("letter to one that is WAITING", x.letter(0), 0);
        due("WAITING", x.about(0, 0), 5);
        x.tick(5);
        due("UP and read", x.about(0, 0) * 10 + x.about(0, 7), 21);
        x.tick(1);
        due("FAILED", x.about(0, 0), 4);
        due("letter to one that is FAILED", x.letter(0), 1);
        due("FAILED", x.about(0, 0), 4);
        x.order(0, 0);
        x.order(1, 0);
        due("letter to one that is STOPPING", x.letter(0), 2);
        x.tick(3);
        due("DOWN", x.about(0, 0), 0);
        due("two lie there", x.about(0, 6), 2);
    }

    private static void numberedOverAllDoors() {
        ServiceTree x = new ServiceTree();
        x.make(2, 0, 0);
        x.make(2, 0, 0);
        for (int i = 0; i < 6; i++) {
            due("letter " + i, x.letter(i % 2), i);
        }
        due("count(4)", x.count(4), 6);
        due("count(5)", x.count(5), 0);
        x.tick(1);
        due("0 read", x.about(0, 8), 0);
        due("1 read", x.about(1, 8), 1);
        x.tick(1);
        due("0 read", x.about(0, 8), 2);
        due("1 read", x.about(1, 8), 3);
        due("count(5)", x.count(5), 4);
        x.tick(5);
        due("0 read", x.about(0, 8), 4);
        due("1 read", x.about(1, 8), 5);
        due("count(5)", x.count(5), 6);
        due("count(4)", x.count(4), 6);
    }

    private static void full() {
        ServiceTree x = new ServiceTree();
        x.make(2, 50, 0);
        x.make(2, 0, 0);
        for (int i = 0; i < 20; i++) {
            due("letter " + i, x.letter(0), i);
        }
        due("FULL", x.letter(0), -6);
        due("count(4)", x.count(4), 20);
        due("another door is not FULL", x.letter(1), 20);
        x.tick(50);
        due("one was read", x.about(0, 6), 19);
        due("the first one", x.about(0, 8), 0);
        due("there is room", x.letter(0), 21);
        due("FULL again", x.letter(0), -6);
        x.tick(19);
        due("in their order", x.about(0, 8), 19);
        x.tick(1);
        due("the later one last", x.about(0, 8), 21);
        due("read", x.about(0, 7), 21);
        fullDoesNotWake();
    }

    private static void fullDoesNotWake() {
        ServiceTree x = new ServiceTree();
        x.make(2, 0, 0);
        x.make(0, 50, 0);
        x.order(0, 1);
        for (int i = 0; i < 20; i++) {
            x.letter(0);
        }
        x.tick(50);
        due("FULL", x.letter(0), -6);
        due("what is refused changes nothing", x.about(0, 0), 0);
    }

    private static void readsOneATick() {
        ServiceTree x = new ServiceTree();
        x.make(2, 0, 0);
        x.letter(0);
        x.letter(0);
        x.letter(0);
        x.life(0, 1, 1);
        x.tick(2);
        due("two read", x.about(0, 7), 2);
        x.order(1, 0);
        x.tick(4);
        due("none is read by one that is DOWN", x.about(0, 7), 2);
        x.order(0, 0);
        x.tick(1);
        due("it FAILED before LETTERS were read", x.about(0, 0) * 10 + x.about(0, 7), 42);
        due("one lies there", x.about(0, 6), 1);
    }
}
