/** LETTERS at the edges: whom a LETTER starts and whom not, what if that START is refused, and when one is read. */
public final class DoorsTest {
    private static final Checks CHECKS = new Checks("DoorsTest");

    public static void main(String[] args) {
        onlyIfItIsDown();
        startIsRefused();
        startIsAnOrder();
        numbersAndReaders();
        whenItIsRead();
        notRead();
        CHECKS.end();
    }

    private static Story story(String name) {
        return new Story(CHECKS, name);
    }

    private static void onlyIfItIsDown() {
        story("DOWN").rows("""
            make(2, 0, 0) = 0
            letter(0) = 0
            about(0, 0) = 2
            about(0, 6) = 1          # it is read in a tick, not before
            about(0, 7) = 0
            letter(0) = 1            # UP: no order
            changes() = 1
            about(0, 6) = 2
            """).end();
        story("STARTING").rows("""
            make(2, 2, 0) = 0
            letter(0) = 0
            about(0, 0) = 1
            count(2) = 1
            letter(0) = 1
            changes() = 1
            about(0, 6) = 2
            """).end();
        story("STOPPING, and DOWN after it").rows("""
            make(2, 0, 2) = 0
            order(0, 0) = 1
            order(1, 0) = 1
            letter(0) = 0
            about(0, 0) = 3
            tick(2) = 2
            about(0, 0) = 0          # the one that lies there starts nothing
            tick(5) = 7
            about(0, 0) = 0
            letter(0) = 1
            about(0, 0) = 2
            about(0, 6) = 2
            """).end();
        story("FAILED").rows("""
            make(2, 0, 0) = 0
            life(0, 0, 1) = 0
            order(0, 0) = 1
            tick(1) = 1
            letter(0) = 0
            about(0, 0) = 4
            tick(9) = 10
            about(0, 0) = 4
            order(1, 0) = 0          # it stays FAILED
            letter(0) = 1
            about(0, 0) = 4
            """).end();
        story("WAITING").rows("""
            make(2, 0, 0) = 0
            life(0, 0, 1) = 0
            again(0, 3, 1, 1) = 1
            order(0, 0) = 1
            tick(1) = 1
            letter(0) = 0
            about(0, 0) = 5          # its waiting does not end
            tick(2) = 3
            about(0, 0) = 5
            about(0, 6) = 1
            tick(1) = 4
            about(0, 0) = 2
            about(0, 7) = 1
            """).end();
    }

    private static void startIsRefused() {
        story("BUSY").rows("""
            make(2, 0, 0) = 0
            make(0, 1, 0) = 1
            order(0, 1) = 1
            letter(0) = 0            # the LETTER comes all the same
            about(0, 0) = 0
            about(0, 5) = 0
            about(0, 6) = 1
            count(4) = 1
            tick(1) = 1
            about(0, 0) = 0          # nothing more happens
            about(0, 7) = 0
            letter(0) = 1
            about(0, 0) = 2
            """).end();
        story("CLASH").rows("""
            make(2, 0, 0) = 0
            make(0, 0, 0) = 1
            relation(0, 0, 1) = 1
            relation(3, 0, 1) = 1
            letter(0) = 0
            changes() = 0
            about(0, 6) = 1
            undo(3, 0, 1) = 1
            tick(5) = 5
            about(0, 0) = 0
            letter(0) = 1
            about(0, 0) = 2
            """).end();
        story("RING of members").rows("""
            make(2, 0, 0) = 0
            make(0, 0, 0) = 1
            relation(0, 0, 1) = 1
            relation(2, 1, 0) = 1
            letter(0) = 0
            changes() = 0
            about(0, 6) = 1
            undo(2, 1, 0) = 1
            letter(0) = 1
            about(0, 0) = 2
            """).end();
        story("RING of JOBS").rows("""
            make(2, 0, 0) = 0
            make(0, 0, 1) = 1
            make(0, 0, 1) = 2
            relation(3, 0, 1) = 1
            relation(3, 0, 2) = 1
            order(0, 1) = 1
            order(0, 2) = 1
            relation(2, 1, 2) = 1
            relation(2, 2, 1) = 1
            letter(0) = 0
            changes() = 2
            count(2) = 0
            about(0, 6) = 1
            """).end();
    }

    private static void startIsAnOrder() {
        story("with all that START does").rows("""
            make(2, 0, 0) = 0
            make(0, 2, 0) = 1
            make(0, 0, 3) = 2
            make(2, 0, 0) = 3
            relation(0, 0, 1) = 1
            relation(3, 0, 2) = 1
            relation(1, 0, 3) = 1
            order(0, 2) = 1
            letter(0) = 0
            count(2) = 3             # 3 is UP at once
            order(0, 3) = -3
            """).states(0, 1, 3, 2).row("tick(2)", 2).states(0, 2, 3, 2).row("tick(1)", 3).states(2, 2, 0, 2)
            .row("about(0, 7)", 0).row("tick(1)", 4).row("about(0, 7)", 1).row("about(3, 7)", 0).end();
    }

    private static void numbersAndReaders() {
        story("numbered from 0 on, over all doors; each reads its own").rows("""
            make(2, 0, 0) = 0
            make(2, 0, 0) = 1
            make(2, 9, 0) = 2
            letter(1) = 0
            letter(0) = 1
            letter(1) = 2
            letter(2) = 3
            letter(0) = 4
            letter(1) = 5
            count(4) = 6
            count(5) = 0
            tick(1) = 1
            about(0, 8) = 1
            about(1, 8) = 0
            about(2, 8) = -1
            count(5) = 2
            tick(1) = 2
            about(0, 8) = 4
            about(1, 8) = 2
            tick(1) = 3
            about(0, 8) = 4          # its door is empty
            about(1, 8) = 5
            about(0, 7) = 2
            about(1, 7) = 3
            count(4) = 6
            count(5) = 5
            tick(6) = 9
            about(2, 8) = 3
            count(5) = 6
            """).end();
    }

    private static void whenItIsRead() {
        story("in the tick at which its STARTING is over").rows("""
            make(2, 2, 0) = 0
            letter(0) = 0
            letter(0) = 1
            tick(1) = 1
            about(0, 7) = 0
            tick(1) = 2
            about(0, 7) = 1
            tick(1) = 3
            about(0, 7) = 2
            """).end();
        story("in the tick at which it wakes, if START is 0").rows("""
            make(2, 0, 0) = 0
            life(0, 0, 1) = 0
            again(0, 1, 1, 1) = 1
            order(0, 0) = 1
            tick(1) = 1
            letter(0) = 0
            tick(1) = 2
            about(0, 0) = 2
            about(0, 7) = 1
            """).end();
        story("not in the tick in which its JOB begins: JOBS begin after LETTERS").rows("""
            make(2, 0, 0) = 0
            make(0, 1, 0) = 1
            relation(0, 0, 1) = 1
            letter(0) = 0
            tick(1) = 1
            about(0, 0) = 2
            about(0, 7) = 0
            tick(1) = 2
            about(0, 7) = 1
            """).end();
    }

    private static void notRead() {
        story("not by one whose LIFE is over in that tick").rows("""
            make(2, 0, 0) = 0
            life(0, 0, 2) = 0
            letter(0) = 0
            letter(0) = 1
            letter(0) = 2
            tick(1) = 1
            about(0, 7) = 1
            tick(1) = 2
            about(0, 0) = 4
            about(0, 7) = 1
            about(0, 6) = 2          # they stay at the door
            order(0, 0) = 1
            tick(2) = 4
            about(0, 8) = 2
            """).end();
        story("not by one that goes in that tick").rows("""
            make(2, 0, 1) = 0
            make(0, 0, 0) = 1
            relation(0, 0, 1) = 1
            life(1, 0, 1) = 0
            letter(0) = 0
            tick(1) = 1
            about(0, 0) = 3
            about(0, 7) = 0
            about(0, 6) = 1
            """).end();
        story("not by one that is STOPPING").rows("""
            make(2, 0, 5) = 0
            letter(0) = 0
            letter(0) = 1
            order(1, 0) = 1
            tick(5) = 5
            about(0, 7) = 0
            about(0, 6) = 2
            """).end();
        story("by one whose JOB to stop waits still").rows("""
            make(2, 0, 5) = 0
            make(0, 0, 2) = 1
            make(0, 0, 0) = 2
            relation(2, 1, 0) = 1
            order(0, 0) = 1
            order(0, 1) = 1
            letter(0) = 0
            letter(0) = 1
            letter(0) = 2
            order(2, 2) = 3
            tick(2) = 2              # it is STOPPING only after it has read
            about(0, 0) = 3
            about(0, 7) = 2
            tick(5) = 7
            about(0, 7) = 2
            about(0, 6) = 1
            """).end();
    }
}
