/** Promises 21 to 26: what is best. */
public final class BestTest {
    private static final Check CHECK = new Check();
    private static final int CHILD = 0;
    private static final int KING = 1;
    private static final int SHY = 2;
    private static final int NUT = 3;

    public static void main(String[] args) {
        first();
        bring();
        kind();
        trust();
        away();
        winner();
        CHECK.end();
    }

    private static void due(String call, long got, long want) {
        CHECK.due(call, got, want);
    }

    private static void first() {
        BreakSwaps x = new BreakSwaps();
        x.child(CHILD, 0);
        due("21: alone", x.first(0, 0), Check.NONE);
        due("21: alone, and too far", x.first(0, 41), Check.BEYOND);
        x.child(CHILD, 1);
        x.child(CHILD, 3);
        x.child(CHILD, 3);
        due("21: what is best at once", x.first(0, 0), 2);
        x.likes(2, 1, 20);
        due("21: by way of 1 as good, and least", x.first(0, 1), 1);
        due("21: not with itself", x.first(3, 0), 2);
        x.likes(3, 0, 20);
        due("21: with the first one", x.first(3, 0), 0);
        x.set(0, 3, 0);
        x.set(2, 3, 0);
        due("21: trust doesn't count at once", x.first(0, 0), 2);
        due("21: nothing changes", x.now(5) + x.of(0, 1), 0);
        due("21: n 41", x.first(0, 41), Check.BEYOND);
        due("21: n -1", x.first(0, -1), Check.BEYOND);
        due("21: n 40", x.first(0, 40), 2);
        due("21: nobody", x.first(4, 0), Check.BEYOND);
        due("21: nobody at -1", x.first(-1, 0), Check.BEYOND);
    }

    private static void bring() {
        BreakSwaps x = new BreakSwaps();
        x.child(NUT, 0);
        x.likes(0, 9, 20);
        due("22: no nuts", x.bring(0, 0), 3);
        x.turn(0, CHILD);
        due("22: nuts", x.bring(0, 0), 9);
        x.likes(0, 9, 10);
        due("22: of several the least", x.bring(0, 0), 3);
        x.child(SHY, 3);
        x.turn(0, KING);
        due("22: the king's own", x.bring(0, 0), 9);
        x.likes(0, 9, 0);
        due("22: the king's own", x.bring(0, 0), 6);
        x.turn(0, CHILD);
        x.likes(0, 4, 0);
        x.likes(1, 4, 20);
        due("22: what the other one wants", x.bring(0, 0), 3);
        x.likes(0, 3, 20);
        x.likes(0, 2, 20);
        due("22: of several the least", x.bring(0, 1), 2);
        x.likes(0, 2, 0);
        due("22: it has it", x.bring(0, 0), 3);
        x.likes(1, 0, 20);
        due("22: for what it can have it", x.bring(0, 1), 0);
        due("22: nothing changes", x.of(0, 1) + x.now(0), 0);
        due("22: n 41", x.bring(0, 41), Check.BEYOND);
        due("22: n -1", x.bring(0, -1), Check.BEYOND);
        due("22: nobody", x.bring(2, 0), Check.BEYOND);
        due("22: nobody at -1", x.bring(-1, 0), Check.BEYOND);
    }

    /** In round 1, when shy ones ask nobody: 0 has nothing good, 1 and 2 refuse it, 3 doesn't. */
    private static BreakSwaps thirdWouldSwap() {
        BreakSwaps x = new BreakSwaps();
        x.rounds(1);
        x.child(CHILD, 0);
        x.child(SHY, 3);
        x.child(SHY, 6);
        x.child(SHY, 9);
        x.likes(3, 0, 20);
        return x;
    }

    private static void kind() {
        BreakSwaps x = thirdWouldSwap();
        due("23: all the same now", x.kind(0, 0), 0);
        due("23: a king asks more", x.kind(0, 1), 1);
        due("23: later any", x.kind(0, 2), 0);
        due("23: as it is asked", x.kind(3, 40), 0);
        x.likes(0, 9, 0);
        x.likes(0, 0, 1);
        due("23: what it likes, not what it is worth", x.kind(0, 1), 0);
        x.set(0, 1, 9);
        x.likes(0, 9, 10);
        due("23: a nut has what it likes", x.kind(0, 0), 0);
        due("23: nothing changes", x.of(0, 0) + x.of(0, 2), 0);
        due("23: n 41", x.kind(0, 41), Check.BEYOND);
        due("23: n -1", x.kind(0, -1), Check.BEYOND);
        due("23: nobody", x.kind(4, 0), Check.BEYOND);
        due("23: nobody at -1", x.kind(-1, 0), Check.BEYOND);
    }

    private static void trust() {
        BreakSwaps x = new BreakSwaps();
        x.rounds(1);
        x.child(CHILD, 0);
        x.child(SHY, 9);
        x.likes(1, 0, 20);
        due("24: trusted enough to be asked", x.trust(1, 1, 20), 10);
        due("24: or one more", x.trust(1, 1, 9), 10);
        due("24: as it is", x.trust(1, 1, 8), 0);
        due("24: not now", x.trust(1, 0, 9), Check.NONE);
        due("24: too much", x.trust(1, 1, 21), Check.NONE);
        due("24: it asks itself in round 2", x.trust(1, 2, 20), 0);
        due("24: least v", x.trust(1, 40, -20), 0);
        due("24: most v", x.trust(1, 40, 40), Check.NONE);
        due("24: nothing changes", x.of(1, 3), 50);
        due("24: v 41", x.trust(1, 0, 41), Check.BEYOND);
        due("24: v -21", x.trust(1, 0, -21), Check.BEYOND);
        due("24: n 41", x.trust(1, 41, 0), Check.BEYOND);
        due("24: n -1", x.trust(1, -1, 0), Check.BEYOND);
        due("24: nobody", x.trust(2, 0, 0), Check.BEYOND);
        due("24: nobody at -1", x.trust(-1, 0, 0), Check.BEYOND);
    }

    private static void away() {
        BreakSwaps x = new BreakSwaps();
        due("25: nobody is there", x.away(0), Check.NONE);
        due("25: nobody, and too far", x.away(41), Check.BEYOND);
        x.rounds(1);
        x.child(CHILD, 0);
        x.child(SHY, 3);
        x.child(SHY, 6);
        x.likes(1, 0, 11);
        x.likes(2, 0, 20);
        due("25: now all the same", x.away(0), 0);
        due("25: without 1, 2 is asked", x.away(1), 1);
        due("25: nothing changes", x.count(2), 150);
        due("25: n -1", x.away(-1), Check.BEYOND);
        due("25: n 40", x.away(40), 1);
    }

    private static void winner() {
        BreakSwaps x = new BreakSwaps();
        due("26: nobody is there", x.winner(0), Check.NONE);
        due("26: nobody, and too far", x.winner(101), Check.BEYOND);
        x.child(CHILD, 3);
        x.child(CHILD, 1);
        x.child(CHILD, 2);
        x.likes(1, 2, 8);
        x.likes(2, 1, 8);
        due("26: now", x.winner(0), 0);
        due("26: 2 by 5, 1 by 1", x.winner(1), 2);
        x.likes(1, 2, 12);
        due("26: both by 5", x.winner(100), 1);
        due("26: nothing changes", x.now(5), 0);
        due("26: n -1", x.winner(-1), Check.BEYOND);
    }
}
