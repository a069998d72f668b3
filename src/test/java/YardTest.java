/** Promises 1 to 4: a new object, and the yard. */
public final class YardTest {
    private static final Check CHECK = new Check();

    public static void main(String[] args) {
        newObject();
        teacher();
        now();
        who();
        CHECK.end();
    }

    private static void due(String call, long got, long want) {
        CHECK.due(call, got, want);
    }

    private static void newObject() {
        BreakSwaps x = new BreakSwaps();
        due("1: status(-1)", x.status(-1), 0);
        int[] now = {0, 0, 0, 0, 1, 0};
        for (int what = 0; what < now.length; what++) {
            due("1: now(" + what + ")", x.now(what), now[what]);
        }
        int[] count = {0, 0, 0, 10};
        for (int what = 0; what < count.length; what++) {
            due("1: count(" + what + ")", x.count(what), count[what]);
        }
        due("1: of(0, 0)", x.of(0, 0), Check.BEYOND);
        due("1: undo()", x.undo(), Check.NONE);
        due("1: tear()", x.tear(), 0);
        for (int s = 0; s < 4; s++) {
            due("1: write(" + s + ", 0, 0)", x.write(s, 0, 0), Check.MISSING);
        }
        due("1: wipe()", x.wipe(), 0);
        BreakSwaps other = new BreakSwaps();
        other.child(0, 0);
        due("1: objects share nothing", x.count(0), 0);
    }

    private static void teacher() {
        BreakSwaps x = new BreakSwaps();
        due("2: teacher(0)", x.teacher(0), 0);
        due("2: teacher(1)", x.teacher(1), 0);
        due("2: teacher(1)", x.teacher(1), 1);
        due("2: teacher(2)", x.teacher(2), Check.BEYOND);
        due("2: teacher(-1)", x.teacher(-1), Check.BEYOND);
        due("2: now(1)", x.now(1), 1);
        due("2: teacher(0)", x.teacher(0), 1);
        due("2: now(1)", x.now(1), 0);
    }

    private static void now() {
        BreakSwaps x = new BreakSwaps();
        x.child(0, 3);
        due("3: things of one alone", x.now(2), 1 << 3);
        x.child(3, 9);
        x.child(0, 3);
        due("3: things", x.now(2), 1 << 3 | 1 << 9);
        due("3: glad", x.now(3), 10 - 20 + 10);
        due("3: over", x.now(4), 1);
        x.likes(2, 9, 11);
        due("3: not over", x.now(4), 0);
        x.set(2, 3, 0);
        due("3: not over without trust", x.now(4), 0);
        x.swap(0, 1);
        x.swap(0, 2);
        due("3: swapped", x.now(5), 4);
        due("3: round", x.now(0), 0);
        x.rounds(7);
        due("3: round", x.now(0), 7);
        due("3: now(-1)", x.now(-1), Check.BEYOND);
        due("3: now(6)", x.now(6), Check.BEYOND);
    }

    private static void who() {
        BreakSwaps x = new BreakSwaps();
        due("4: nobody is there", x.who(0), 0);
        x.child(0, 3);
        x.child(1, 0);
        x.child(2, 3);
        x.child(3, 9);
        due("4: who(3)", x.who(3), 5);
        due("4: who(0)", x.who(0), 2);
        due("4: who(9)", x.who(9), 8);
        due("4: who(1)", x.who(1), 0);
        due("4: who(-1)", x.who(-1), Check.BEYOND);
        due("4: who(10)", x.who(10), Check.BEYOND);
    }
}
