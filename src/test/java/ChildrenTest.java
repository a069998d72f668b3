/** Promises 5 to 15: children. */
public final class ChildrenTest {
    private static final Check CHECK = new Check();
    private static final int CHILD = 0;
    private static final int KING = 1;
    private static final int SHY = 2;
    private static final int NUT = 3;
    private static final int CHEAT = 4;
    private static final int NEW = 5;

    public static void main(String[] args) {
        child();
        of();
        set();
        likes();
        worth();
        agrees();
        agreesByTeacherAndSwapped();
        turn();
        as();
        swap();
        mates();
        ring();
        CHECK.end();
    }

    private static void due(String call, long got, long want) {
        CHECK.due(call, got, want);
    }

    /** One of each kind, child k of kind k, all with the same thing. */
    private static BreakSwaps allKinds(int thing) {
        BreakSwaps x = new BreakSwaps();
        for (int kind = 0; kind < 6; kind++) {
            x.child(kind, thing);
        }
        return x;
    }

    private static void child() {
        BreakSwaps x = new BreakSwaps();
        due("5: kind -1", x.child(-1, 0), Check.BEYOND);
        due("5: kind 6", x.child(6, 0), Check.BEYOND);
        due("5: thing -1", x.child(0, -1), Check.BEYOND);
        due("5: thing 10", x.child(0, 10), Check.BEYOND);
        due("5: nobody came", x.count(0), 0);
        for (int c = 0; c < 8; c++) {
            due("5: child " + c, x.child(c % 6, c + 2), c);
        }
        due("5: a 9th", x.child(0, 0), Check.FULL);
        due("5: a 9th of no kind", x.child(6, 0), Check.BEYOND);
        due("5: a 9th with no thing", x.child(0, 10), Check.BEYOND);
        due("5: eight", x.count(0), 8);
        due("5: kind", x.of(7, 0), 1);
        due("5: thing", x.of(7, 1), 9);
        due("5: swapped", x.of(7, 2), 0);
        due("5: trust", x.of(7, 3), 50);
        int[] likes = {0, 7, 3, 10, 6, 2, 9, 5, 1, 8};
        for (int t = 0; t < 10; t++) {
            due("5: likes " + t, x.likes(0, t, 0), likes[t]);
        }
        x = new BreakSwaps();
        x.child(0, 1);
        x.image();
        x.child(4, 2);
        x.likes(1, 0, 20);
        x.set(1, 2, 7);
        x.set(1, 3, 8);
        x.undo();
        x.child(0, 3);
        due("5: nothing of an earlier one is left: swapped", x.of(1, 2), 0);
        due("5: trust", x.of(1, 3), 50);
        due("5: likes", x.likes(1, 0, 0), 0);
    }

    private static void of() {
        BreakSwaps x = allKinds(6);
        int[] asks = {2, 7, 1, 2, 7, 2};
        int[] asksThen = {2, 7, 0, 2, 7, 1};
        int[] loses = {0, 1, 0, 0, 10, 0};
        int[] glad = {9, 9, 9, 9, 9, 9 + 6};
        for (int c = 0; c < 6; c++) {
            due("6: kind of " + c, x.of(c, 0), c);
            due("6: has of " + c, x.of(c, 1), 6);
            due("6: glad of " + c, x.of(c, 4), glad[c]);
            due("6: asks of " + c, x.of(c, 5), asks[c]);
            due("6: loses of " + c, x.of(c, 6), loses[c]);
        }
        x.set(3, 2, 17);
        x.set(3, 3, 71);
        due("6: swapped", x.of(3, 2), 17);
        due("6: trust", x.of(3, 3), 71);
        x.rounds(1);
        for (int c = 0; c < 6; c++) {
            due("6: asks of " + c + " in round 1", x.of(c, 5), asksThen[c]);
        }
        x.rounds(1);
        due("6: asks of shy in round 2", x.of(SHY, 5), 1);
        due("6: of(6, 0)", x.of(6, 0), Check.BEYOND);
        due("6: of(-1, 0)", x.of(-1, 0), Check.BEYOND);
        due("6: of(0, 7)", x.of(0, 7), Check.BEYOND);
        due("6: of(0, -1)", x.of(0, -1), Check.BEYOND);
    }

    private static void set() {
        BreakSwaps x = allKinds(6);
        due("7: has", x.set(1, 1, 9), 6);
        due("7: has", x.set(1, 1, 0), 9);
        due("7: who has what it had", x.who(9), 0);
        due("7: who has it", x.who(0), 2);
        due("7: a thing of one's own", x.worth(1, 0), 3);
        due("7: one less has it", x.worth(NEW, 6), 9 + 5);
        due("7: swapped", x.set(1, 2, 9999), 0);
        due("7: swapped", x.set(1, 2, 0), 9999);
        due("7: trust", x.set(1, 3, 99), 50);
        due("7: trust", x.set(1, 3, 0), 99);
        due("7: trust", x.of(1, 3), 0);
        int[] most = {0, 9, 9999, 99};
        for (int what = 1; what < 4; what++) {
            due("7: too much " + what, x.set(1, what, most[what] + 1), Check.BEYOND);
            due("7: too little " + what, x.set(1, what, -1), Check.BEYOND);
            due("7: nobody " + what, x.set(6, what, 0), Check.BEYOND);
            due("7: nobody at -1 " + what, x.set(-1, what, 0), Check.BEYOND);
        }
        due("7: what 0", x.set(1, 0, 0), Check.BEYOND);
        due("7: what 4", x.set(1, 4, 0), Check.BEYOND);
        due("7: what -1", x.set(1, -1, 0), Check.BEYOND);
        due("7: nothing changed", x.of(1, 1) + x.of(1, 2) + x.of(1, 3), 0);
    }

    private static void likes() {
        BreakSwaps x = allKinds(6);
        due("8: likes", x.likes(0, 9, 20), 8);
        due("8: likes", x.likes(0, 9, 0), 20);
        due("8: likes", x.likes(0, 9, 4), 0);
        due("8: another one's", x.likes(1, 9, 4), 8);
        due("8: 21", x.likes(0, 9, 21), Check.BEYOND);
        due("8: -1", x.likes(0, 9, -1), Check.BEYOND);
        due("8: thing 10", x.likes(0, 10, 1), Check.BEYOND);
        due("8: thing -1", x.likes(0, -1, 1), Check.BEYOND);
        due("8: nobody", x.likes(6, 0, 1), Check.BEYOND);
        due("8: nobody at -1", x.likes(-1, 0, 1), Check.BEYOND);
        due("8: nothing changed", x.worth(0, 9), 4);
    }

    private static void worth() {
        BreakSwaps x = allKinds(6);
        int[] byNobody = {7, 7, 7, 7, 7, 7};
        int[] byOne = {7, 10, 7, 7, 10, 8};
        int[] byTwo = {7, 7, 7, 7, 7, 9};
        for (int c = 0; c < 6; c++) {
            due("9: nobody has it, to " + c, x.worth(c, 1), byNobody[c]);
        }
        x.child(0, 1);
        for (int c = 0; c < 6; c++) {
            due("9: one has it, to " + c, x.worth(c, 1), byOne[c]);
        }
        x.child(0, 1);
        for (int c = 0; c < 6; c++) {
            due("9: two have it, to " + c, x.worth(c, 1), byTwo[c]);
        }
        int[] nuts = {8, 8, 8, -20, 8, 8};
        for (int c = 0; c < 6; c++) {
            due("9: nuts, to " + c, x.worth(c, 9), nuts[c]);
        }
        x.likes(NUT, 9, 20);
        x.set(NUT, 1, 9);
        due("9: its own nuts", x.worth(NUT, 9), -20);
        due("9: the king's own", x.set(KING, 1, 0) + x.worth(KING, 0), 6 + 3);
        due("9: new's own", x.set(NEW, 1, 4) + x.worth(NEW, 4), 6 + 7);
        due("9: nobody", x.worth(8, 0), Check.BEYOND);
        due("9: nobody at -1", x.worth(-1, 0), Check.BEYOND);
        due("9: thing 10", x.worth(0, 10), Check.BEYOND);
        due("9: thing -1", x.worth(0, -1), Check.BEYOND);
    }

    /** The least liking of thing 2, which nobody has, at which each agrees, if it likes its thing 0 by 5 (six have it). */
    private static void agrees() {
        BreakSwaps x = allKinds(0);
        int[] least = {6, 8, 6, 6, 5, 5 + 6 + 2};
        for (int c = 0; c < 6; c++) {
            x.likes(c, 0, 5);
            x.likes(c, 2, least[c] - 1);
            due("10: too little for " + c, x.agrees(c, 2), 0);
            x.likes(c, 2, least[c]);
            due("10: enough for " + c, x.agrees(c, 2), 1);
            due("10: the same for " + c, x.agrees(c, 0), c == CHEAT ? 1 : 0);
        }
        x.child(0, 2);
        x.likes(KING, 2, 5);
        due("10: by 3, as one has it", x.agrees(KING, 2), 1);
        x.likes(KING, 2, 4);
        due("10: by 2", x.agrees(KING, 2), 0);
        due("10: nuts", x.likes(NUT, 0, 0) + x.likes(NUT, 9, 20) + x.agrees(NUT, 9), 5 + 8);
        x.set(NUT, 1, 9);
        due("10: rather than nuts", x.agrees(NUT, 0), 1);
        due("10: nobody", x.agrees(7, 0), Check.BEYOND);
        due("10: nobody at -1", x.agrees(-1, 0), Check.BEYOND);
        due("10: thing 10", x.agrees(0, 10), Check.BEYOND);
        due("10: thing -1", x.agrees(0, -1), Check.BEYOND);
    }

    private static void agreesByTeacherAndSwapped() {
        BreakSwaps x = allKinds(0);
        int[] looked = {1, 1, 0, 1, 1, 0};
        for (int c = 0; c < 6; c++) {
            x.likes(c, 2, 20);
            x.teacher(0);
            due("10: unseen " + c, x.agrees(c, 2), 1);
            x.teacher(1);
            due("10: seen " + c, x.agrees(c, 2), looked[c]);
        }
        x.teacher(0);
        x.set(CHEAT, 2, 19);
        due("10: a cheat at 19", x.agrees(CHEAT, 2), 1);
        x.set(CHEAT, 2, 20);
        due("10: a cheat at 20", x.agrees(CHEAT, 2), 0);
        x.set(KING, 2, 20);
        due("10: a king at 20", x.agrees(KING, 2), 1);
        x.likes(CHEAT, 2, 0);
        x.likes(CHEAT, 0, 1);
        x.set(CHEAT, 2, 0);
        due("10: a cheat for less", x.agrees(CHEAT, 2), 0);
        x.likes(NEW, 2, 7);
        due("10: new by 1", x.agrees(NEW, 2), 0);
        x.set(NEW, 2, 1);
        due("10: new by 1 after a swap", x.agrees(NEW, 2), 1);
        x.likes(NEW, 2, 6);
        due("10: new by 0 after a swap", x.agrees(NEW, 2), 0);
    }

    private static void turn() {
        BreakSwaps x = new BreakSwaps();
        x.child(2, 5);
        x.set(0, 2, 3);
        x.set(0, 3, 4);
        x.likes(0, 5, 6);
        due("11: to 5", x.turn(0, 5), 2);
        due("11: to 0", x.turn(0, 0), 5);
        due("11: to 0", x.turn(0, 0), 0);
        due("11: to 4", x.turn(0, 4), 0);
        due("11: kind", x.of(0, 0), 4);
        due("11: has", x.of(0, 1), 5);
        due("11: swapped", x.of(0, 2), 3);
        due("11: trust", x.of(0, 3), 4);
        due("11: glad", x.of(0, 4), 9);
        due("11: kind 6", x.turn(0, 6), Check.BEYOND);
        due("11: kind -1", x.turn(0, -1), Check.BEYOND);
        due("11: nobody", x.turn(1, 0), Check.BEYOND);
        due("11: nobody at -1", x.turn(-1, 0), Check.BEYOND);
        due("11: kind", x.of(0, 0), 4);
    }

    private static void as() {
        BreakSwaps x = allKinds(0);
        String[] under = {"0", "01", "02", "03", "014", "025"};
        for (int c = 0; c < 6; c++) {
            x.set(c, 3, 10 + c);
            for (int kind = 0; kind < 6; kind++) {
                boolean is = under[c].indexOf('0' + kind) >= 0;
                due("12: as(" + c + ", " + kind + ")", x.as(c, kind), is ? 10 + c : Check.KIND);
            }
        }
        due("12: kind 6", x.as(0, 6), Check.BEYOND);
        due("12: kind -1", x.as(0, -1), Check.BEYOND);
        due("12: nobody", x.as(6, 0), Check.BEYOND);
        due("12: nobody at -1", x.as(-1, 1), Check.BEYOND);
    }

    private static void swap() {
        BreakSwaps x = new BreakSwaps();
        x.child(KING, 3);
        x.child(CHEAT, 8);
        x.child(NEW, 8);
        due("13: a bad one", x.swap(0, 1), 1);
        due("13: has", x.of(0, 1) * 10 + x.of(1, 1), 83);
        due("13: swapped", x.of(0, 2) * 10 + x.of(1, 2), 11);
        due("13: a king's trust", x.of(0, 3), 49);
        due("13: a cheat's trust", x.of(1, 3), 40);
        due("13: of the same thing", x.swap(0, 2), 1);
        due("13: swapped", x.of(0, 2) * 10 + x.of(2, 2), 21);
        due("13: new's trust", x.of(2, 3), 50);
        due("13: of the first", x.swap(2, 1), 10 + 1);
        x.set(1, 3, 9);
        x.set(0, 3, 0);
        x.set(1, 2, 9999);
        x.set(0, 2, 9998);
        x.swap(1, 0);
        due("13: trust is 0 at least", x.of(1, 3) + x.of(0, 3), 0);
        due("13: swapped is held", x.of(1, 2) + x.of(0, 2), 9999 + 9999);
        x.teacher(1);
        due("13: a teacher changes nothing", x.swap(2, 0), 1 + 2);
        due("13: one and the same", x.swap(0, 0), Check.BEYOND);
        due("13: nobody", x.swap(3, 0), Check.BEYOND);
        due("13: no other", x.swap(0, 3), Check.BEYOND);
        due("13: nobody at -1", x.swap(-1, 0), Check.BEYOND);
        due("13: no other at -1", x.swap(0, -1), Check.BEYOND);
    }

    private static void mates() {
        BreakSwaps x = new BreakSwaps();
        x.child(CHILD, 8);
        x.child(CHILD, 3);
        x.child(SHY, 6);
        x.child(CHILD, 1);
        x.child(CHILD, 8);
        x.likes(1, 8, 11);
        x.likes(2, 8, 11);
        due("14: two would", x.mates(0), 1 << 1 | 1 << 2);
        due("14: one of them", x.mates(1), 1 << 0 | 1 << 4);
        due("14: nobody", x.mates(3), 0);
        x.set(1, 3, 0);
        due("14: trust doesn't count", x.mates(0), 1 << 1 | 1 << 2);
        x.teacher(1);
        due("14: a teacher does", x.mates(0), 1 << 1);
        BreakSwaps y = new BreakSwaps();
        y.child(CHEAT, 8);
        y.child(CHEAT, 8);
        due("14: not of the same thing", y.mates(0), 0);
        due("14: nobody there", y.mates(2), Check.BEYOND);
        due("14: nobody at -1", y.mates(-1), Check.BEYOND);
    }

    private static void ring() {
        BreakSwaps x = new BreakSwaps();
        x.child(CHILD, 0);
        x.child(CHILD, 3);
        x.child(CHILD, 0);
        x.child(CHILD, 1);
        x.child(CHILD, 2);
        due("15: none", x.ring(), Check.NONE);
        x.likes(1, 2, 11);
        x.likes(4, 0, 4);
        due("15: 0 wants 3, 1 wants 2, 4 wants 0", x.ring(), 14);
        x.likes(3, 2, 11);
        x.likes(1, 1, 12);
        due("15: 0 wants 3, 1 wants 1, 3 wants none of 0", x.ring(), 14);
        x.likes(3, 0, 12);
        due("15: 0 wants 3, 1 wants 1, 3 wants 0", x.ring(), 13);
        x.set(0, 3, 0);
        due("15: trust doesn't count", x.ring(), 13);
        x.set(0, 1, 3);
        due("15: 0 has the same as 1", x.ring(), 132);
        BreakSwaps y = new BreakSwaps();
        due("15: nobody", y.ring(), Check.NONE);
        y.child(CHEAT, 0);
        y.child(CHEAT, 0);
        y.child(CHEAT, 0);
        due("15: what they have is the same", y.ring(), Check.NONE);
        due("15: status", y.status(3), 2);
    }
}
