/** The text of a yard, and promises 27 to 29. */
final class TextEdges {
    private static final String[] NAMES = {"child", "king", "shy", "nut", "cheat", "new"};

    private final Edges e;

    TextEdges(Edges e) {
        this.e = e;
    }

    void ask() {
        tokens();
        items();
        faults();
        feed();
        wipe();
        yard();
    }

    /** The answer for a text on a yard with two children; a fault leaves them alone. */
    private void answers(String text, int want) {
        Run run = e.empty().go("child(0, 3); child(1, 4)").tellDue(text, want).due("count(1)", 0)
            .due("status(-1)", 0);
        if (want < 0) {
            run.due("count(0)", 2).have("3 4").swapped("0 0").trusts("50 50").due("now(1)", 0);
        }
    }

    private void fault(String text, int place) {
        answers(text, -1 - place);
    }

    private void tokens() {
        e.passage("THE TEXT");
        e.says("THE TEXT of a YARD, from THE TAPE (bytes, at most 120).");
        answers(" ".repeat(113) + "child 9", 1);
        answers("child 9" + " ".repeat(113), 1);
        answers(" ".repeat(116) + "none", 1);
        fault(" ".repeat(117) + "non", 117);
        fault(" ".repeat(120), 120);
        fault("none" + ";none".repeat(23) + ";", 120);
        answers("none" + ";none".repeat(23) + " ", 24);
        e.empty().tellDue("none".repeat(30), -1).go("feed(0, 4)").due("count(1)", 4);
        e.says("TOKENS, each as long as can be:");
        fault("childs 3", 0);
        fault("childchild 3", 0);
        fault("nonenone", 0);
        fault("child 33", 6);
        fault("child 3trustlikes 3", 7);
        answers("child3trust4likes5 6;none", 2);
        e.says("WORDS (letters a to z),");
        fault("Child 3", 0);
        fault("CHILD 3", 0);
        fault("chilD 3", 0);
        fault("child_ 3", 5);
        fault("none`", 4);
        fault("none{", 4);
        fault("`none", 0);
        fault("{none", 0);
        fault("none" + (char) ('e' + 128), 4);
        fault("azaz", 0);
        e.says("NUMBERS (digits, 999 at most),");
        answers("child 009", 1);
        answers("child 0000000000000000000000000000000000000009", 1);
        fault("child 999", 6);
        fault("child 1000", 6);
        fault("child 1000 x", 6);
        // 3 by the lowest bits of one, two, four and eight bytes.
        fault("child 259", 6);
        fault("child 65539", 6);
        fault("child 4294967299", 6);
        fault("child 18446744073709551619", 6);
        fault("child -3", 6);
        fault("child +3", 6);
        fault("child 3.0", 7);
        fault("child /", 6);
        fault("child :", 6);
        e.says("SIGN ; ;");
        answers("none;none", 2);
        fault("none,none", 4);
        fault("none:none", 4);
        fault("none<none", 4);
        e.says("blanks may stand between.");
        answers("  child   3  trust   4  likes  5   6  ;  none  ", 2);
        answers("child3;none", 2);
        fault("chi ld 3", 0);
        fault("child 0 3", 8);
        fault("child\t3", 5);
        fault("none\n", 4);
        fault("none\r\n", 4);
        fault("\u0000none", 0);
        fault("none" + (char) 160, 4);
        e.says("TEXT: ITEM { ; ITEM }.");
        answers("none", 1);
        answers("none;none;none", 3);
        fault("", 0);
        fault(" ", 1);
        fault(";", 0);
        fault(";none", 0);
        fault("none;", 5);
        fault("none; ", 6);
        fault("none;;none", 5);
        fault("none none", 5);
    }

    private void items() {
        e.says("ITEM: the name of a KIND (child king shy nut cheat new),");
        for (int kind = 0; kind < 6; kind++) {
            e.empty().tellDue(NAMES[kind] + " 3", 1).due("of(0, 0)", kind);
            fault(NAMES[kind] + "s 3", 0);
            fault(NAMES[kind].substring(1) + " 3", 0);
            fault("x" + NAMES[kind].substring(1) + " 3", 0);
            fault(NAMES[kind].substring(0, NAMES[kind].length() - 1) + " 3", 0);
        }
        e.says("a NUMBER (the THING that it HAS),");
        for (int thing = 0; thing < 10; thing++) {
            e.empty().tellDue("nut " + thing, 1).due("of(0, 1)", thing).due("who(" + thing + ")", 1);
        }
        fault("child 10", 6);
        fault("child", 5);
        fault("child;", 5);
        fault("child trust 3", 6);
        fault("child child 3", 6);
        fault("child 3 4", 8);
        e.says("perhaps trust and a NUMBER (0 to 99),");
        e.empty().tellDue("child 1; child 1 trust 0; child 1 trust 99; child 1 trust 00050", 4).trusts("50 0 99 50");
        fault("child 3 trust 100", 14);
        fault("child 3 trust 355", 14);
        fault("child 3 trust", 13);
        fault("child 3 trust;", 13);
        fault("child 3 trust trust 4", 14);
        fault("child 3 trust likes 4", 14);
        fault("child 3 trust 4 5", 16);
        fault("child 3 trust 4 trust 5", 16);
        fault("trust 4", 0);
        e.says("perhaps likes and 1 to 4 NUMBERS (0 to 20; of THINGS 0, 1, ..):");
        e.yard("child 0 likes 20; child 0 likes 0 20; child 0 trust 1 likes 0 0 20; child 0 likes 0 1 2 20")
            .due("worth(0, 0)", 20).due("worth(0, 1)", 7).due("worth(1, 0)", 0).due("worth(1, 1)", 20)
            .due("worth(1, 2)", 3).due("worth(2, 1)", 0).due("worth(2, 2)", 20).due("worth(2, 3)", 10)
            .due("worth(3, 1)", 1).due("worth(3, 2)", 2).due("worth(3, 3)", 20).due("worth(3, 4)", 6)
            .trusts("50 50 1 50");
        fault("child 3 likes", 13);
        fault("child 3 likes;", 13);
        fault("child 3 likes x", 14);
        fault("child 3 likes 21", 14);
        fault("child 3 likes 0 21", 16);
        fault("child 3 likes 0 0 21", 18);
        fault("child 3 likes 0 0 0 21", 20);
        fault("child 3 likes 276", 14);
        fault("child 3 likes 1 likes 2", 16);
        fault("child 3 likes 1 trust 2", 16);
        fault("likes 4", 0);
        e.says("one more;");
        e.empty().tellDue("child 3", 1).due("count(0)", 1).tellDue("king 9; king 9", 2).due("count(0)", 3)
            .have("3 9 9").swapped("0 0 0").trusts("50 50 50").due("worth(1, 9)", 8);
        e.says("teacher or none: the TEACHER looks, or not;");
        e.empty().tellDue("none", 1).due("now(1)", 0).tellDue("teacher", 1).due("now(1)", 1).tellDue("teacher", 1)
            .due("now(1)", 1).tellDue("none;teacher;none", 3).due("now(1)", 0).tellDue("none;teacher", 2)
            .due("now(1)", 1);
        fault("teacher 1", 8);
        fault("none 0", 5);
        fault("teachers", 0);
        fault("teache", 0);
        fault("nones", 0);
        fault("non", 0);
        e.says("swap, two NUMBERS (CHILDREN there by then, unlike): they SWAP.");
        swaps();
    }

    private void swaps() {
        e.yard("cheat 3 trust 9; king 4").tellDue("swap 0 1", 1).have("4 3").swapped("1 1").trusts("0 49")
            .tellDue("swap 1 0;swap 001 00", 2).have("4 3").swapped("3 3").trusts("0 47").tellDue("teacher;swap 0 1", 2)
            .have("3 4");
        e.empty().tellDue("child 3; child 4; swap 0 1; child 5; swap 2 0", 5).have("5 3 4").swapped("2 1 1");
        fault("swap", 4);
        fault("swap ;", 5);
        fault("swap 0", 6);
        fault("swap 0;", 6);
        fault("swap 0 x", 7);
        fault("swap x 0", 5);
        fault("swap 0 0", 7);
        fault("swap 1 1", 7);
        fault("swap 0 2", 7);
        fault("swap 2 0", 5);
        fault("swap 2 2", 5);
        fault("swap 0 257", 7);
        fault("swap 0 1 0", 9);
        fault("swap 01", 7);
        answers("child 5; swap 2 0", 2);
        fault("swap 2 0; child 5", 5);
        fault("child 5; swap 3 0", 14);
        e.empty().tellDue("swap 0 1", -1 - 5).tellDue("child 3; swap 0 1", -1 - 16)
            .tellDue("child 3; swap 0 0", -1 - 16);
        e.yard("child 3" + ";child 3".repeat(7)).tellDue("swap 0 7; swap 7 0", 2).tellDue("swap 0 8", -1 - 7)
            .tellDue("swap 8 0", -1 - 5);
        fault("swaps 0 1", 0);
        fault("swa 0 1", 0);
    }

    private void faults() {
        e.says("FAULT: the place (from 0) of the first byte of the first TOKEN that can't stand there");
        fault("x", 0);
        fault("  x", 2);
        fault("none  ;  x", 9);
        fault("x y z", 0);
        fault("child 3 likes 1 x; child 99", 16);
        fault(" ".repeat(119) + "x", 119);
        everyBeginning();
        e.says("(a NUMBER that may not be or is a fifth behind likes,");
        fault("3", 0);
        fault("none 3", 5);
        fault("child 3 3", 8);
        fault("child 3 likes 1 2 3 4 5", 22);
        fault("child 3 likes 1 2 3 4 999", 22);
        fault("child 3 likes 1 2 3 4   0005; none", 24);
        answers("child 3 likes 1 2 3 4;none", 2);
        e.says("another WORD,");
        fault("word", 0);
        fault("a", 0);
        fault("none;childish 3", 5);
        fault("child 3 trusts 3", 8);
        fault("child 3 like 3", 8);
        fault("child 3 child 3", 8);
        fault("child 3 none", 8);
        fault("child 3 swap 0 1", 8);
        e.says("a byte that begins no TOKEN,");
        everyByte();
        e.says("the name of a KIND for a 9th: its own),");
        Run full = e.yard("child 3" + ";child 3".repeat(7));
        for (String name : NAMES) {
            full.tellDue(name + " 3", -1).tellDue("none;  " + name, -1 - 7).tellDue(name + " 99", -1);
        }
        full.tellDue("none; swap 0 7", 2).due("count(0)", 8);
        e.empty().tellDue("child 3;".repeat(8) + "none", 9).due("count(0)", 8);
        e.empty().tellDue("child 3;".repeat(8) + "child 3", -1 - 64).due("count(0)", 0);
        e.says("or how many bytes there are if it ends too early.");
        fault("", 0);
        fault("   ", 3);
        fault("none;", 5);
        fault("none;   ", 8);
        fault("child", 5);
        fault("child   ", 8);
        fault("child 3 trust  ", 15);
        fault("child 3 likes ", 14);
        fault("swap ", 5);
        fault("swap 0 ", 7);
        fault(" ".repeat(115) + "child", 120);
    }

    /** Each beginning of a text that stands. */
    private void everyBeginning() {
        String text = "king 4 trust 9;swap 0 1";
        int[] want = {-1, -1, -1, -1, -5, -6, 1, 1, -8, -8, -8, -8, -13, -14, 1, -16, -16, -16, -16, -20, -21, -22, -23,
            2};
        for (int n = 0; n < want.length; n++) {
            answers(text.substring(0, n), want[n]);
        }
    }

    /** Each byte, alone, and between a word and another one that can't stand there. */
    private void everyByte() {
        for (int b = 0; b < 256; b++) {
            char sign = (char) b;
            boolean isLetter = sign >= 'a' && sign <= 'z';
            fault(String.valueOf(sign), sign == ' ' ? 1 : 0);
            fault("none" + sign + "x", isLetter ? 0 : sign == ' ' || sign == ';' ? 5 : 4);
        }
    }

    private void feed() {
        e.passage("27");
        e.says("THE TAPE gets the n lowest bytes of a number behind it, the highest of these first (n 1 to 4): "
            + "how many it has.");
        int king = 'k' << 24 | 'i' << 16 | 'n' << 8 | 'g';
        int shut = 'x' << 24 | 'x' << 16 | 'x' << 8;
        e.empty().due("feed(" + king + ", 4)", 4).due("feed(" + (shut | '7') + ", 1)", 5).due("yard()", 1).have("7");
        e.empty().due("feed(" + ('k' << 8 | 'i') + ", 2)", 2).due("feed(" + ('x' << 24 | 'n' << 16 | 'g' << 8 | ' ')
            + ", 3)", 5).due("feed(" + (shut | '5') + ", 1)", 6).due("yard()", 1).have("5").due("of(0, 0)", 1);
        // Bytes above 127, and numbers below 0.
        e.empty().due("feed(-1, 1)", 1).due("yard()", -1).due("feed(-1, 4)", 4).due("yard()", -1)
            .due("feed(-2147483648, 4)", 4).due("feed(-2147483648, 1)", 5).due("yard()", -1)
            .due("feed(" + (0xff000000 | ' ' << 16 | ' ' << 8 | ' ') + ", 3)", 3).due("yard()", -1 - 3);
        // The tape of the made yard ends with teacher, so it may go on with a blank.
        e.changes("feed(32, 1)", "count(1) 22>23");
        e.says("BEYOND: n.");
        e.range("feed(32, ?)", 1, 4);
        e.empty().due("feed(0, 0)", Check.BEYOND).due("feed(0, 5)", Check.BEYOND).due("count(1)", 0);
        e.says("FULL.");
        for (int n = 1; n < 5; n++) {
            Run run = e.empty();
            for (int i = 0; i < 29; i++) {
                run.due("feed(538976288, 4)", 4 * i + 4);
            }
            run.due("feed(538976288, " + n + ")", 116 + n).due("feed(538976288, " + (5 - n) + ")", Check.FULL)
                .due("count(1)", 116 + n).due("feed(538976288, 5)", Check.BEYOND);
            if (n < 4) {
                run.due("feed(538976288, " + (4 - n) + ")", 120);
            }
            run.due("feed(0, 1)", Check.FULL).due("feed(0, 4)", Check.FULL).due("feed(0, 0)", Check.BEYOND)
                .due("count(1)", 120).due("yard()", -121).due("feed(0, 1)", 1);
        }
        e.refused("feed(538976288, 4); ".repeat(24) + "count(1)", "feed(538976288, 3)", Check.FULL);
    }

    private void wipe() {
        e.passage("28");
        e.says("THE TAPE is empty: how many it had.");
        e.empty().due("wipe()", 0).go("feed(0, 1)").due("wipe()", 1).due("wipe()", 0).due("count(1)", 0)
            .go("feed(538976288, 4); ".repeat(30) + "count(0)").due("wipe()", 120).due("count(1)", 0)
            .due("yard()", -1).due("status(-1)", 0);
        // What was on it is gone: no digit or letter of it goes on.
        e.empty().go("feed(926365495, 4); feed(926365495, 4); wipe()").tellDue("child 3", 1).have("3");
        e.empty().go("feed(1633771873, 4); feed(1633771873, 4); wipe()").tellDue("none", 1).due("now(1)", 0);
    }

    private void yard() {
        e.passage("29");
        e.says("THE TAPE is THE TEXT of a YARD, whose ITEMS come to what there is, and empty then: how many ITEMS.");
        e.yard("child 3; teacher").go("rounds(5); set(0, 2, 7)").tellDue("king 4; swap 0 1; none", 3)
            .due("count(1)", 0).due("yard()", -1).have("4 3").swapped("8 1").due("now(0)", 5).due("now(1)", 0);
        // As they come, one behind another.
        e.empty().tellDue("child 3; child 4; swap 0 1; new 4; swap 0 2; swap 1 2", 6).have("4 4 3").swapped("2 2 2");
        e.says("With a FAULT: -1 less its place (nothing changes but that THE TAPE is empty; no finding).");
        e.empty().due("yard()", -1).due("status(-1)", 0).tellDue("none;", -6).tellDue(" ".repeat(120), -121)
            .due("status(-1)", 0).due("count(1)", 0);
        e.yard("child 3; cheat 5").go("rounds(3); image()")
            .tellDue("teacher;swap 0 1;king 4 trust 9 likes 1 2;swap 0 2;x", -1 - 51).due("count(1)", 0)
            .due("count(0)", 2).have("3 5").swapped("0 0").trusts("50 50").due("now(0)", 3).due("now(1)", 0)
            .due("who(4)", 0).due("status(-1)", 0).due("yard()", -1).due("child(5, 4)", 2).due("worth(2, 4)", 7)
            .due("worth(2, 0)", 0).due("undo()", 2);
        e.changes("feed(120, 1)", "yard()", "count(1) 23>0, then yard() -16>-1");
    }
}
