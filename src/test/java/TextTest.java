/** Promises 27 to 29: the tape and the text. */
public final class TextTest {
    private static final Check CHECK = new Check();

    public static void main(String[] args) {
        feed();
        wipe();
        yardItems();
        yardFaults();
        yardByChildren();
        nothingChanges();
        CHECK.end();
    }

    private static void due(String call, long got, long want) {
        CHECK.due(call, got, want);
    }

    /** The answer for a text on a yard with three children. */
    private static void yard(String text, int want) {
        BreakSwaps x = new BreakSwaps();
        x.child(0, 3);
        x.child(1, 4);
        x.child(4, 5);
        due("29: \"" + text + "\"", Check.yard(x, text), want);
        due("29: \"" + text + "\", the tape", x.count(1), 0);
        due("29: \"" + text + "\", findings", x.status(-1), 0);
    }

    private static void fault(String text, int place) {
        yard(text, -1 - place);
    }

    private static void feed() {
        BreakSwaps x = new BreakSwaps();
        due("27: n 0", x.feed(0, 0), Check.BEYOND);
        due("27: n 5", x.feed(0, 5), Check.BEYOND);
        due("27: n -1", x.feed(0, -1), Check.BEYOND);
        due("27: the lowest three", x.feed('x' << 24 | 'k' << 16 | 'i' << 8 | 'n', 3), 3);
        due("27: the lowest one", x.feed('x' << 8 | 'g', 1), 4);
        due("27: the lowest two", x.feed('x' << 24 | 'x' << 16 | ' ' << 8 | '7', 2), 6);
        due("27: count", x.count(1), 6);
        due("27: yard", x.yard(), 1);
        due("27: kind and thing", x.of(0, 0) * 10 + x.of(0, 1), 17);
        for (int i = 1; i <= 29; i++) {
            due("27: piece " + i, x.feed(0x20202020, 4), 4 * i);
        }
        due("27: two more", x.feed(0x20202020, 2), 118);
        due("27: three more", x.feed(0x20202020, 3), Check.FULL);
        due("27: n 5 of a full one", x.feed(0x20202020, 5), Check.BEYOND);
        due("27: just as many", x.feed(0x20202020, 2), 120);
        due("27: one more", x.feed(0x20, 1), Check.FULL);
        due("27: count", x.count(1), 120);
        due("27: all blank", x.yard(), -121);
    }

    private static void wipe() {
        BreakSwaps x = new BreakSwaps();
        x.feed(0x6e6f6e65, 4);
        x.feed(0x6e6f6e65, 3);
        due("28: wipe", x.wipe(), 7);
        due("28: wipe", x.wipe(), 0);
        due("28: count", x.count(1), 0);
        due("28: it ends too early", x.yard(), -1);
    }

    private static void yardItems() {
        BreakSwaps x = new BreakSwaps();
        due("29: all", Check.yard(x, "child 3;king 4 trust 99; shy 5 likes 20 ; nut 9trust 0likes 1 2 3 4;"
            + "cheat0trust7;new 6 likes 0 19;teacher"), 7);
        for (int c = 0; c < 6; c++) {
            due("29: kind of " + c, x.of(c, 0), c);
        }
        int[] has = {3, 4, 5, 9, 0, 6};
        int[] trust = {50, 99, 50, 0, 7, 50};
        int[][] likes = {{0, 7, 3, 10, 6}, {0, 7, 3, 10, 6}, {20, 7, 3, 10, 6}, {1, 2, 3, 4, 6}, {0, 7, 3, 10, 6},
            {0, 19, 3, 10, 6}};
        for (int c = 0; c < 6; c++) {
            due("29: has of " + c, x.of(c, 1), has[c]);
            due("29: trust of " + c, x.of(c, 3), trust[c]);
            due("29: swapped of " + c, x.of(c, 2), 0);
            for (int t = 0; t < 5; t++) {
                due("29: likes of " + c, x.likes(c, t, 1), likes[c][t]);
            }
        }
        due("29: teacher", x.now(1), 1);
        due("29: none", Check.yard(x, "none"), 1);
        due("29: no teacher", x.now(1), 0);
        due("29: the last counts", Check.yard(x, "none;none;teacher"), 3);
        due("29: teacher", x.now(1), 1);
        due("29: swap", Check.yard(x, "swap 0 4; child 8; swap6 4"), 3);
        due("29: has", x.of(0, 1) * 100 + x.of(4, 1) * 10 + x.of(6, 1), 83);
        due("29: swapped", x.of(0, 2) * 100 + x.of(4, 2) * 10 + x.of(6, 2), 121);
        due("29: trust of a cheat", x.of(4, 3), 0);
        due("29: round", x.now(0), 0);
        due("29: worth by who has it", x.worth(5, 3) - x.worth(5, 7), 1 + 1 - 5);
    }

    private static void yardFaults() {
        fault("", 0);
        fault("   ", 3);
        fault(";", 0);
        fault("child", 5);
        fault("child ", 6);
        fault("child ;", 6);
        fault("child 10", 6);
        fault("child  010", 7);
        yard("child 0009", 1);
        fault("child 00010", 6);
        fault("child 4294967296", 6);
        fault("child 1000000000000000000000000000000", 6);
        fault("child x", 6);
        fault("child 3 4", 8);
        fault("child 3 x", 8);
        fault("child 3 child 3", 8);
        fault("child 3 teacher", 8);
        fault("child 3;", 8);
        fault("child 3; ", 9);
        fault("child 3;;child 3", 8);
        fault("child 3, child 3", 7);
        fault("childs 3", 0);
        fault("chil 3", 0);
        fault("xhild 3", 0);
        fault("chilx 3", 0);
        fault("childz 3", 0);
        fault("achild 3", 0);
        yard("child3", 1);
        fault("Child 3", 0);
        fault("child 3 trust", 13);
        fault("child 3 trust 100", 14);
        yard("child 3 trust 99", 1);
        fault("child 3 trust 1 trust 1", 16);
        fault("child 3 trust 1 2", 16);
        fault("child 3 trust;", 13);
        fault("child 3 likes", 13);
        fault("child 3 likes;", 13);
        fault("child 3 likes 21", 14);
        yard("child 3 likes 20", 1);
        fault("child 3 likes 1 21", 16);
        fault("child 3 likes 1 2 3 21", 20);
        yard("child 3 likes 1 2 3 4", 1);
        fault("child 3 likes 1 2 3 4 5", 22);
        fault("child 3 likes 1 2 3 4 999", 22);
        fault("child 3 likes 1 trust 2", 16);
        fault("child 3 likes 1 likes 2", 16);
        fault("trust 3", 0);
        fault("likes 3", 0);
        fault("3", 0);
        fault("teacher 1", 8);
        fault("teacher teacher", 8);
        fault("teachers", 0);
        fault("none;nones", 5);
        fault("swap", 4);
        fault("swap 0", 6);
        fault("swap 0;", 6);
        fault("swap 0 0", 7);
        fault("swap 0 3", 7);
        fault("swap 3 0", 5);
        yard("swap 2 0", 1);
        fault("swap 2 0 1", 9);
        fault("swap 0 999", 7);
        fault("swap x 1", 5);
        yard("child 3;swap 3 0", 2);
        fault("swap 3 0;child 3", 5);
        fault("child 3;swap 4 0", 13);
        yard("  teacher  ;  none  ", 2);
        fault("none\tnone", 4);
        fault("none\n", 4);
        fault("none \0", 5);
        fault("none " + (char) 233, 5);
        fault((char) 255 + "none", 0);
        fault("none {", 5);
        fault("none `", 5);
        fault("child :", 6);
        fault("child /", 6);
        fault("child ?; x", 6);
    }

    private static void yardByChildren() {
        BreakSwaps x = new BreakSwaps();
        due("29: nobody to swap", Check.yard(x, "swap 0 1"), -6);
        due("29: one alone", Check.yard(x, "child 3; swap 0 1"), -1 - 16);
        due("29: eight", Check.yard(x, "child 3;child 3;child 3;child 3;child 3;child 3;child 3;new 4;none"), 9);
        due("29: a 9th", Check.yard(x, "none; king 4"), -1 - 6);
        due("29: a 9th with a wrong thing", Check.yard(x, "king 44"), -1);
        due("29: not for a 9th", Check.yard(x, "teacher; swap 0 7"), 2);
        x = new BreakSwaps();
        due("29: a 9th in one text",
            Check.yard(x, "child 3;child 3;child 3;child 3;child 3;child 3;child 3;child 3;shy 4"), -1 - 64);
        due("29: nobody came", x.count(0), 0);
        BreakSwaps y = new BreakSwaps();
        due("29: as many as can be", Check.yard(y, "none;".repeat(23) + "none "), 24);
        String full = "child 3 likes 1 2 3 4" + " ".repeat(90) + ";teacher ";
        Check.feed(y, "child 39 trust");
        due("29: nothing is left of what was wiped", Check.yard(y, "child 3"), 1);
        String digit = " ".repeat(113) + "child 5";
        due("29: 120 bytes with a digit at the end", digit.length() == 120 ? Check.yard(y, digit) : digit.length(), 1);
        due("29: 120 bytes", full.length() == 120 ? Check.yard(y, full) : full.length(), 2);
    }

    private static void nothingChanges() {
        BreakSwaps x = new BreakSwaps();
        x.child(0, 3);
        x.child(4, 5);
        due("29: a fault at the end",
            Check.yard(x, "teacher;swap 0 1;king 4 trust 9 likes 1 2;swap 0 2;x"), -1 - 51);
        due("29: count", x.count(0), 2);
        due("29: teacher", x.now(1), 0);
        due("29: swapped", x.now(5), 0);
        due("29: has", x.of(0, 1) * 10 + x.of(1, 1), 35);
        due("29: trust", x.count(2), 100);
        due("29: who has 4", x.who(4), 0);
        x.turn(0, 5);
        due("29: how many have 4", x.worth(0, 4), 6);
        due("29: the tape", x.count(1), 0);
        due("29: no finding", x.status(-1), 0);
    }
}
