/** Promises 16 to 20: how rounds go. */
public final class RoundsTest {
    private static final Check CHECK = new Check();
    private static final int CHILD = 0;
    private static final int KING = 1;
    private static final int SHY = 2;
    private static final int CHEAT = 4;
    private static final int NEW = 5;

    public static void main(String[] args) {
        mostFirst();
        howMany();
        noTrust();
        cheats();
        shyRounds();
        shyRoundsApart();
        eight();
        lastRound();
        wrongRounds();
        on();
        glad();
        gets();
        over();
        CHECK.end();
    }

    private static void due(String call, long got, long want) {
        CHECK.due(call, got, want);
    }

    private static String has(BreakSwaps x) {
        StringBuilder b = new StringBuilder();
        for (int c = 0; c < x.count(0); c++) {
            b.append(x.of(c, 1));
        }
        return b.toString();
    }

    private static void have(String what, BreakSwaps x, String want) {
        CHECK.holds(what + ": they have " + has(x) + ", due is " + want, has(x).equals(want));
    }

    private static void mostFirst() {
        BreakSwaps x = new BreakSwaps();
        x.child(CHILD, 0);
        x.child(CHILD, 1);
        x.child(CHILD, 3);
        x.child(CHILD, 3);
        for (int c = 1; c < 4; c++) {
            x.likes(c, 0, 20);
        }
        due("16: rounds(1)", x.rounds(1), 2);
        have("16: most first, of several the least", x, "3103");
        due("16: it stays so", x.rounds(60), 2);
        have("16: it stays so", x, "3103");
        due("16: round", x.now(0), 61);
    }

    /** In round 1, when shy ones ask nobody: 0 has nothing good, 1 and 2 refuse it, 3 doesn't. */
    private static BreakSwaps thirdWouldSwap(int kind) {
        BreakSwaps x = new BreakSwaps();
        x.rounds(1);
        x.child(kind, 0);
        x.child(SHY, 3);
        x.child(SHY, 6);
        x.child(SHY, 9);
        x.likes(3, 0, 20);
        return x;
    }

    private static void howMany() {
        BreakSwaps x = thirdWouldSwap(CHILD);
        due("16: a child asks two", x.rounds(1), 0);
        x = thirdWouldSwap(KING);
        due("16: a king asks all", x.rounds(1), 2);
        have("16: a king asks all", x, "9360");
        x = thirdWouldSwap(CHEAT);
        due("16: a cheat asks all", x.rounds(1), 2);
        x = thirdWouldSwap(SHY);
        due("16: a shy one asks nobody in round 1", x.rounds(1), 0);
        due("16: but is asked in round 2", x.rounds(1), 2);
        x = thirdWouldSwap(NEW);
        x.set(2, 3, 9);
        due("16: new asks one in round 1", x.rounds(1), 0);
        x = thirdWouldSwap(NEW);
        x.set(1, 3, 9);
        x.set(2, 3, 9);
        due("16: new asks one in round 1", x.rounds(1), 2);
    }

    private static void noTrust() {
        BreakSwaps x = thirdWouldSwap(CHILD);
        x.set(1, 3, 9);
        due("16: who isn't trusted counts for nothing", x.rounds(1), 2);
        x = thirdWouldSwap(CHILD);
        x.set(1, 3, 10);
        due("16: trust 10 is enough", x.rounds(1), 0);
        x = thirdWouldSwap(KING);
        x.set(3, 3, 9);
        due("16: nor is it asked", x.rounds(1), 0);
        x = thirdWouldSwap(KING);
        x.set(0, 3, 0);
        due("16: but it asks", x.rounds(1), 2);
    }

    /** Three to whom all is worth the same swap until nobody is trusted. */
    private static BreakSwaps threeCheats() {
        BreakSwaps x = new BreakSwaps();
        for (int c = 0; c < 3; c++) {
            x.child(CHEAT, c + 1);
            for (int t = 0; t < 10; t++) {
                x.likes(c, t, 5);
            }
        }
        return x;
    }

    private static void cheats() {
        BreakSwaps x = threeCheats();
        int[] swapped = {6, 12, 16, 18, 18, 18};
        String[] have = {"321", "312", "231", "132", "132", "132"};
        for (int r = 0; r < swapped.length; r++) {
            due("16: cheats after " + r, x.rounds(1), swapped[r]);
            have("16: cheats after " + r, x, have[r]);
        }
        due("16: trust", x.count(2), 0);
        due("16: all at once", threeCheats().rounds(6), 18);
        BreakSwaps y = new BreakSwaps();
        y.child(CHEAT, 4);
        y.child(CHEAT, 4);
        due("16: none with the same thing", y.rounds(5), 0);
    }

    private static void shyRounds() {
        BreakSwaps x = new BreakSwaps();
        x.rounds(1);
        x.child(SHY, 0);
        x.child(SHY, 3);
        x.likes(1, 0, 20);
        due("16: nobody asks in round 1", x.rounds(1), 0);
        due("16: over in", x.over(), 1);
        x.teacher(1);
        due("16: not when a teacher looks", x.rounds(3), 0);
        x.teacher(0);
        due("16: nobody asks in round 5", x.rounds(1), 0);
        due("16: they do in round 6", x.rounds(1), 2);
    }

    /**
     * Between two rounds in which shy ones swap there is one in which nobody asks: in round 0, 1 gets 0 from 0 for 1; in
     * round 2, 0 gets 3 from 2 for that. 2 itself asks only 3, which refuses.
     */
    private static void shyRoundsApart() {
        BreakSwaps x = new BreakSwaps();
        Check.yard(x, "shy 0 likes 1 5 0 9; shy 1 likes 20 7 0 0; shy 3 likes 0 15 0 10; shy 6 likes 0 0 0 0");
        x.likes(0, 6, 0);
        x.likes(1, 6, 0);
        x.likes(2, 6, 20);
        int[] glad = {1 + 7 + 10 + 9, 5 + 20 + 10 + 9, 5 + 20 + 10 + 9, 9 + 20 + 15 + 9, 9 + 20 + 15 + 9};
        for (int n = 0; n < glad.length; n++) {
            due("16: shy ones on " + n, x.glad(n), glad[n]);
        }
        due("16: shy ones on 100", x.on(0, 100, 0), 3);
        due("16: gets it on 3", x.gets(0, 3), 3);
        due("16: over on 3", x.over(), 3);
        due("16: at once", x.rounds(60), 4);
        have("16: at once", x, "3016");
    }

    /** As many as can be, so that a loop that goes one too far is seen. */
    private static void eight() {
        BreakSwaps x = new BreakSwaps();
        for (int c = 0; c < 8; c++) {
            x.child(CHEAT, c);
            for (int t = 0; t < 10; t++) {
                x.likes(c, t, 5);
            }
        }
        for (int c = 0; c < 8; c++) {
            x.mates(c);
            x.first(c, 3);
            x.who(c);
        }
        x.ring();
        for (int what = 0; what < 6; what++) {
            x.now(what);
        }
        x.away(3);
        x.winner(3);
        x.over();
        int swapped = x.rounds(60);
        CHECK.holds("16: eight go on", swapped > 0);
        due("16: swapped of all", x.now(5), swapped);
        due("16: all things are still there", x.now(2), 255);
        BreakSwaps y = new BreakSwaps();
        for (int c = 0; c < 8; c++) {
            y.child(CHILD, c);
        }
        due("16: all like the same: no ring", y.ring(), Check.NONE);
        due("16: all like the same: over", y.over(), 0);
        due("16: trust", y.count(2), 400);
    }

    /** It takes more than 512 calls to come there, so no document asks this; it is kept all the same. */
    private static void lastRound() {
        BreakSwaps x = new BreakSwaps();
        for (int i = 0; i < 1666; i++) {
            x.rounds(60);
        }
        due("16: round", x.now(0), 99960);
        due("16: too far", x.rounds(40), Check.STATE);
        due("16: beyond is asked first", x.rounds(61), Check.BEYOND);
        due("16: round", x.now(0), 99960);
        due("16: just so far", x.rounds(39), 0);
        due("16: round", x.now(0), 99999);
        due("16: too far", x.rounds(1), Check.STATE);
        due("16: status", x.status(4), 2);
    }

    private static void wrongRounds() {
        BreakSwaps x = new BreakSwaps();
        due("16: rounds(0)", x.rounds(0), Check.BEYOND);
        due("16: rounds(-1)", x.rounds(-1), Check.BEYOND);
        due("16: rounds(61)", x.rounds(61), Check.BEYOND);
        due("16: rounds(max)", x.rounds(Integer.MAX_VALUE), Check.BEYOND);
        due("16: round", x.now(0), 0);
    }

    private static void on() {
        BreakSwaps x = threeCheats();
        int[][] due = {{1, 2, 3}, {3, 2, 1}, {3, 1, 2}, {2, 3, 1}, {1, 3, 2}, {1, 3, 2}};
        for (int n = 0; n < due.length; n++) {
            for (int c = 0; c < 3; c++) {
                due("17: has of " + c + " on " + n, x.on(c, n, 0), due[n][c]);
            }
        }
        due("17: swapped", x.on(0, 1, 1), 3);
        due("17: trust", x.on(0, 1, 2), 20);
        due("17: glad", x.on(0, 1, 3), 8);
        due("17: trust on 100", x.on(2, 100, 2), 0);
        due("17: nothing changes", x.now(0) + x.now(5), 0);
        have("17: nothing changes", x, "123");
        due("17: trust stays", x.count(2), 150);
        due("17: n 101", x.on(0, 101, 0), Check.BEYOND);
        due("17: n -1", x.on(0, -1, 0), Check.BEYOND);
        due("17: what 4", x.on(0, 0, 4), Check.BEYOND);
        due("17: what -1", x.on(0, 0, -1), Check.BEYOND);
        due("17: nobody", x.on(3, 0, 0), Check.BEYOND);
        due("17: nobody at -1", x.on(-1, 0, 0), Check.BEYOND);
    }

    private static void glad() {
        BreakSwaps x = thirdWouldSwap(KING);
        due("18: now", x.glad(0), 3 + 10 + 9 + 8);
        due("18: on 1", x.glad(1), 11 + 10 + 9 + 20);
        due("18: on 100", x.glad(100), 11 + 10 + 9 + 20);
        due("18: nothing changes", x.now(3), 3 + 10 + 9 + 8);
        due("18: round", x.now(0), 1);
        due("18: n 101", x.glad(101), Check.BEYOND);
        due("18: n -1", x.glad(-1), Check.BEYOND);
        due("18: nobody is there", new BreakSwaps().glad(5), 0);
    }

    private static void gets() {
        BreakSwaps x = threeCheats();
        due("19: it has it", x.gets(0, 1), 0);
        due("19: on 1", x.gets(0, 3), 1);
        due("19: on 3", x.gets(0, 2), 3);
        due("19: on 2", x.gets(1, 1), 2);
        due("19: not within a round", x.gets(1, 3), 3);
        due("19: never", x.gets(0, 4), Check.NONE);
        due("19: nothing changes", x.now(0), 0);
        due("19: nobody", x.gets(3, 0), Check.BEYOND);
        due("19: nobody at -1", x.gets(-1, 0), Check.BEYOND);
        due("19: thing 10", x.gets(0, 10), Check.BEYOND);
        due("19: thing -1", x.gets(0, -1), Check.BEYOND);
    }

    private static void over() {
        due("20: nobody is there", new BreakSwaps().over(), 0);
        due("20: cheats would for ever", threeCheats().over(), Check.NONE);
        due("20: on 1", thirdWouldSwap(KING).over(), 1);
        due("20: on 2", thirdWouldSwap(SHY).over(), 2);
        BreakSwaps x = thirdWouldSwap(CHILD);
        due("20: a child comes to be asked in round 2", x.over(), 2);
        due("20: nothing changes", x.now(0), 1);
        x.teacher(1);
        due("20: a teacher looks", x.over(), 0);
    }
}
