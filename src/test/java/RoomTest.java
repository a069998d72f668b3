import java.lang.management.ManagementFactory;

/** All calls of a run share one room, so only the constructor may make anything. */
public final class RoomTest {
    private static final int CALLS = 400;

    public static void main(String[] args) {
        Check check = new Check();
        com.sun.management.ThreadMXBean threads = (com.sun.management.ThreadMXBean) ManagementFactory.getThreadMXBean();
        long me = Thread.currentThread().getId();
        // Loads all that the calls use before anything is counted.
        everything(made());
        threads.getThreadAllocatedBytes(me);
        long before = threads.getThreadAllocatedBytes(me);
        BreakSwaps x = made();
        long madeBytes = threads.getThreadAllocatedBytes(me) - before;
        before = threads.getThreadAllocatedBytes(me);
        long sum = 0;
        for (int i = 0; i < CALLS; i++) {
            sum += everything(x);
        }
        long bytes = threads.getThreadAllocatedBytes(me) - before;
        System.out.println("constructor and setting up: " + madeBytes + " bytes, calls after it: " + bytes + " (" + sum + ")");
        check.holds("an object takes less than 8000 bytes", madeBytes < 8000);
        check.holds("calls make nothing", bytes < 1000);
        check.end();
    }

    private static BreakSwaps made() {
        BreakSwaps x = new BreakSwaps();
        for (int c = 0; c < 8; c++) {
            x.child(c % 6, c);
        }
        x.sheet(0, 8, 40);
        x.sheet(1, 16, 40);
        return x;
    }

    private static long everything(BreakSwaps x) {
        long sum = x.teacher(0) + x.now(4) + x.who(1) + x.child(0, 0) + x.of(0, 5) + x.set(0, 1, 3) + x.likes(0, 1, 9);
        sum += x.worth(0, 1) + x.agrees(0, 1) + x.turn(0, 4) + x.as(0, 1) + x.swap(0, 1) + x.mates(0) + x.ring();
        sum += x.rounds(1) + x.on(0, 100, 0) + x.glad(100) + x.gets(0, 9) + x.over() + x.first(0, 40) + x.bring(0, 40);
        sum += x.kind(0, 40) + x.trust(0, 40, 40) + x.away(40) + x.winner(100) + x.wipe();
        sum += x.feed(0x6e6f6e65, 4) + x.feed(0x3b6b696e, 4) + x.feed(0x67203930, 4) + x.yard() + x.feed(0x6e6f6e65, 4);
        sum += x.yard() + x.sheet(2, 64, 40) + x.write(2, 3, 4) + x.copy(2, 0, 2, 1, 39) + x.book(0, 0);
        return sum + x.read(0, 0, 1) + x.lays(2, 0) + x.image() + x.undo() + x.tear() + x.count(3) + x.status(-1);
    }
}
