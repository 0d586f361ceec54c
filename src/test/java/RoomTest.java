import java.lang.management.ManagementFactory;

/**
 * What runs of 512 calls allocate. A byte holds at most one field or element, so that bytes below the
 * room's 7.3 million keep its elements below it, too.
 */
public final class RoomTest {
    private static final long MOST_BYTES = 3_000_000;

    private static final Check check = new Check();

    interface Step {
        void run(Bench b, int k);
    }

    public static void main(String[] args) {
        measure("puts into papers of all makes by turns", (b, k) -> putByTurns(b, k));
        measure("joins of long rows", (b, k) -> b.desk.join(1, 1));
        measure("cuts and undo", (b, k) -> cutAndUndo(b, k));
        measure("plain forms", (b, k) -> b.desk.plain(1));
        measure("new styles", (b, k) -> b.desk.style(1, 1 + k % 7, k));
        check.end();
    }

    private static void measure(String what, Step step) {
        com.sun.management.ThreadMXBean threads =
                (com.sun.management.ThreadMXBean) ManagementFactory.getThreadMXBean();
        long self = Thread.currentThread().getId();
        Bench b = prepared();
        long before = threads.getThreadAllocatedBytes(self);
        CutDesk other = new CutDesk();
        check.same("a new one", other.count(0), 0);
        for (int k = 0; b.desk.calls() < Desk.MOST_CALLS; k++) {
            step.run(b, k);
        }
        long used = threads.getThreadAllocatedBytes(self) - before;
        System.out.println(what + ": " + used + " bytes");
        check.isTrue(what + ": " + used + " bytes are few enough", used < MOST_BYTES);
    }

    private static Bench prepared() {
        Bench b = new Bench();
        b.row(0, "x\ty\n".repeat(120));
        b.row(1, "z".repeat(480));
        b.desk.paper(2);
        b.desk.paper(3);
        b.desk.copyRow(0, 0, 480, false);
        b.desk.copyRow(1, 0, 480, false);
        b.desk.pin(0, true);
        b.desk.pin(1, true);
        return b;
    }

    private static void putByTurns(Bench b, int k) {
        // Seven turns against twenty kept ACTS: what is kept can't be used again for its like.
        int turn = k % 7;
        if (turn % 4 < 2) {
            b.desk.putRow(turn % 4, 0, 0, 0);
        } else if (turn % 4 == 2) {
            b.desk.putBox(2, 0, 0, 0);
        } else {
            b.desk.putItems(3, 0, 0, 0);
        }
    }

    private static void cutAndUndo(Bench b, int k) {
        if (k % 2 == 0) {
            b.desk.copyRow(0, 0, 400, true);
        } else {
            b.desk.undo();
        }
    }
}
