/** Promises 36 to 40: images, counts and status. */
public final class ImagesTest {
    private static final Check CHECK = new Check();

    public static void main(String[] args) {
        image();
        undo();
        tear();
        count();
        status();
        statusOfEach();
        CHECK.end();
    }

    private static void due(String call, long got, long want) {
        CHECK.due(call, got, want);
    }

    private static void image() {
        BreakSwaps x = new BreakSwaps();
        x.child(2, 3);
        x.child(4, 6);
        x.teacher(1);
        x.rounds(5);
        x.set(0, 2, 12);
        x.set(0, 3, 34);
        x.likes(0, 3, 17);
        due("36: image", x.image(), 1);
        x.swap(0, 1);
        x.turn(0, 5);
        x.likes(0, 3, 1);
        x.likes(0, 6, 1);
        x.child(0, 0);
        x.teacher(0);
        x.rounds(60);
        due("36: undo", x.undo(), 2);
        due("36: round", x.now(0), 5);
        due("36: teacher", x.now(1), 1);
        due("36: kind", x.of(0, 0), 2);
        due("36: has", x.of(0, 1), 3);
        due("36: swapped", x.of(0, 2), 12);
        due("36: trust", x.of(0, 3), 34);
        due("36: likes", x.worth(0, 3) * 100 + x.worth(0, 6), 1709);
        due("36: another one's trust", x.of(1, 3), 50);
        due("36: who has 0", x.who(0), 0);
        due("36: how many have 3", x.turn(0, 5) + x.worth(0, 3), 2 + 18);
    }

    private static void undo() {
        BreakSwaps x = new BreakSwaps();
        due("37: nothing is kept", x.undo(), Check.NONE);
        x.image();
        x.child(0, 1);
        x.sheet(0, 8, 1);
        x.write(0, 0, 5);
        x.feed(0x6e6f6e65, 4);
        due("37: nobody", x.undo(), 0);
        due("37: count", x.count(0), 0);
        due("37: the tape stays", x.count(1), 4);
        due("37: sheets stay", x.write(0, 0, 6), 5);
        x.child(0, 2);
        x.image();
        x.child(0, 3);
        x.image();
        x.child(0, 4);
        due("37: the latest", x.undo(), 2);
        x.child(0, 5);
        x.child(0, 6);
        due("37: it stays", x.undo(), 2);
        due("37: has", x.of(1, 1), 3);
        x.set(1, 1, 9);
        x.likes(1, 3, 0);
        due("37: what is kept does not go along", x.undo(), 2);
        due("37: has", x.of(1, 1), 3);
        due("37: glad", x.of(1, 4), 10);
        due("37: findings stay", x.status(3), 1);
        x.on(0, 5, 0);
        x.first(0, 1);
        x.rounds(3);
        due("37: round", x.undo() + x.now(0), 2);
    }

    private static void tear() {
        BreakSwaps x = new BreakSwaps();
        due("38: nothing", x.tear(), 0);
        x.child(0, 1);
        x.image();
        x.image();
        due("38: something", x.tear(), 1);
        due("38: nothing", x.tear(), 0);
        due("38: nothing is kept", x.undo(), Check.NONE);
        due("38: it stays as it is", x.count(0), 1);
        x.child(0, 1);
        x.image();
        due("38: anew", x.undo(), 2);
    }

    private static void count() {
        BreakSwaps x = new BreakSwaps();
        x.child(0, 1);
        x.child(0, 1);
        x.child(0, 9);
        x.set(2, 3, 7);
        x.feed(0, 3);
        due("39: children", x.count(0), 3);
        due("39: bytes", x.count(1), 3);
        due("39: trust", x.count(2), 107);
        due("39: things that nobody has", x.count(3), 8);
        due("39: count(4)", x.count(4), Check.BEYOND);
        due("39: count(-1)", x.count(-1), Check.BEYOND);
    }

    private static void status() {
        BreakSwaps x = new BreakSwaps();
        for (int which = -1; which < 7; which++) {
            due("40: none of " + which, x.status(which), 0);
        }
        due("40: status(7)", x.status(7), Check.BEYOND);
        due("40: counted from then on", x.status(-1), 1);
        due("40: as beyond", x.status(0), 1);
        due("40: status(-2)", x.status(-2), Check.BEYOND);
        due("40: beyond", x.status(0), 2);
        due("40: a fault is no finding", x.yard(), -1);
        due("40: all", x.status(-1), 2);
        x.image();
        x.ring();
        x.undo();
        due("40: undo takes none back", x.status(3), 1);
        due("40: all", x.status(-1), 3);
    }

    private static void statusOfEach() {
        BreakSwaps x = new BreakSwaps();
        x.teacher(7);
        for (int i = 0; i < 10; i++) {
            x.child(0, 0);
        }
        x.as(0, 1);
        x.as(0, 2);
        x.as(0, 3);
        for (int i = 0; i < 4; i++) {
            x.ring();
        }
        for (int i = 0; i < 5; i++) {
            x.write(0, 0, 0);
        }
        for (int i = 0; i < 6; i++) {
            x.sheet(0, 8, -1);
        }
        int[] due = {1, 2, 3, 4, 0, 5, 6};
        for (int which = 0; which < 7; which++) {
            due("40: status(" + which + ")", x.status(which), due[which]);
        }
        due("40: all", x.status(-1), 21);
    }
}
