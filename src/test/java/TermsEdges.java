/** The terms, but for rounds and texts: findings, the yard, children and what the kinds do. */
final class TermsEdges {
    private static final int CHILD = 0;
    private static final int KING = 1;
    private static final int SHY = 2;
    private static final int NUT = 3;
    private static final int CHEAT = 4;
    private static final int NEW = 5;
    private static final int[] LIKED_AT_FIRST = {0, 7, 3, 10, 6, 2, 9, 5, 1, 8};
    private static final String ALL_KINDS = "child 0; king 0; shy 0; nut 0; cheat 0; new 0";

    private final Edges e;

    TermsEdges(Edges e) {
        this.e = e;
    }

    void ask() {
        findings();
        theYard();
        children();
        worth();
        agrees();
        asks();
        loses();
        swap();
        over();
        onAndGlad();
        sheets();
    }

    private void findings() {
        e.passage("FINDINGS");
        e.says("FINDINGS are answers below -1000000000: -1000000001 BEYOND, -1000000002 FULL, -1000000003 KIND, "
            + "-1000000004 NONE, -1000000005 STATE, -1000000006 MISSING, -1000000007 SIZE");
        e.yard("child 0;".repeat(7) + "child 0").due("who(10)", -1000000001).due("child(0, 0)", -1000000002)
            .due("as(0, 1)", -1000000003).due("ring()", -1000000004).due("lays(0, 0)", -1000000006)
            .due("sheet(0, 8, -1)", -1000000007);
        // More than 512 calls are needed to come there.
        Run late = e.empty();
        for (int i = 0; i < 1666; i++) {
            late.go("rounds(60)");
        }
        late.due("rounds(40)", -1000000005);
        e.says("(in longs, too).");
        e.empty().due("write(4, 0, 0)", -1000000001L).due("write(0, 0, 0)", -1000000006L)
            .go("sheet(0, 64, 1)").due("write(0, 1, 0)", -1000000001L);
        e.says("Each act tells its findings in the order in which they are asked;");
        e.empty().due("sheet(4, 7, -1)", Check.BEYOND).due("sheet(0, 8, -1)", Check.SIZE)
            .due("copy(0, 0, 4, 0, 0)", Check.BEYOND).due("copy(0, -1, 1, 0, 0)", Check.MISSING)
            .due("read(0, 0, 0)", Check.MISSING);
        e.says("one that answers a finding changes nothing but status().");
        e.refused("teacher(2)", Check.BEYOND);
        e.refused("child(0, 0)", "child(0, 0)", Check.FULL);
        e.refused("as(0, 5)", Check.KIND);
        e.refused("gets(0, 5)", Check.NONE);
        e.refused("write(3, 0, 1)", Check.MISSING);
        e.refused("sheet(0, 0, -1)", Check.SIZE);
        e.says("Quotients are cut.");
        // Nothing is divided but for rests: of 7 times 8 by 11, whose quotient is cut to 5.
        e.yard("child 0").due("worth(0, 8)", 1);
        e.says("Sets are told by bits.");
        e.yard("child 9;" + "child 0;".repeat(6) + "child 9").due("who(9)", 1 + 128).due("who(0)", 126)
            .due("who(1)", 0).due("now(2)", 1 + 512).due("mates(7)", 0).go("likes(7, 0, 9)").due("mates(7)", 126)
            .go("likes(1, 9, 0); likes(6, 9, 1); likes(3, 0, 20); likes(2, 0, 8)").due("mates(7)", 16 + 32 + 64);
    }

    private void theYard() {
        e.passage("1.");
        e.says("1. ROUND: 0 at first (99999 at most).");
        Run run = e.empty().due("now(0)", 0);
        for (int i = 0; i < 1666; i++) {
            run.go("rounds(60)");
        }
        run.due("now(0)", 99960).due("rounds(40)", Check.STATE).due("now(0)", 99960).due("rounds(39)", 0)
            .due("now(0)", 99999).due("rounds(1)", Check.STATE).due("now(0)", 99999).due("on(0, 1, 0)", Check.BEYOND)
            .go("child(0, 0)").due("on(0, 100, 0)", 0);
        e.says("TEACHER (1: looks; 0 at first).");
        e.yard("shy 0").due("now(1)", 0).due("agrees(0, 1)", 1).go("teacher(1)").due("now(1)", 1)
            .due("agrees(0, 1)", 0).go("teacher(0)").due("agrees(0, 1)", 1);
        e.says("THINGS 0 to 9: a CHILD LIKES each of them so much (0 to 20; thing t at first as much as the rest of "
            + "7 times t by 11).");
        for (int kind = 0; kind < 6; kind++) {
            run = e.empty().go("child(" + kind + ", 0)");
            for (int t = 0; t < 10; t++) {
                run.due("likes(0, " + t + ", 20)", LIKED_AT_FIRST[t]).due("likes(0, " + t + ", 0)", 20)
                    .due("likes(0, " + t + ", 21)", Check.BEYOND).due("likes(0, " + t + ", -1)", Check.BEYOND)
                    .due("likes(0, " + t + ", 1)", 0);
            }
            run.due("likes(0, 10, 0)", Check.BEYOND).due("likes(0, -1, 0)", Check.BEYOND);
        }
        e.says("NUTS are in thing 9.");
        run = e.yard("nut 0").due("worth(0, 9)", -20);
        for (int t = 0; t < 9; t++) {
            run.due("worth(0, " + t + ")", LIKED_AT_FIRST[t]);
        }
    }

    private void children() {
        e.passage("CHILDREN");
        e.says("CHILDREN 0, 1, .. (at most 8) are of KINDS:");
        Run run = e.empty().due("of(0, 0)", Check.BEYOND);
        for (int c = 0; c < 8; c++) {
            run.due("child(" + c % 6 + ", 0)", c).due("of(" + c + ", 0)", c % 6)
                .due("of(" + (c + 1) + ", 0)", Check.BEYOND).due("count(0)", c + 1);
        }
        run.due("child(0, 0)", Check.FULL).due("count(0)", 8).due("of(8, 0)", Check.BEYOND);
        e.says("0 CHILD, 1 KING under CHILD, 2 SHY under CHILD, 3 NUT (a boy who may not) under CHILD, "
            + "4 CHEAT under KING, 5 NEW under SHY;");
        String[] above = {"0", "0 1", "0 2", "0 3", "0 1 4", "0 2 5"};
        for (int kind = 0; kind < 6; kind++) {
            for (int as = 0; as < 6; as++) {
                e.empty().go("child(" + kind + ", 0)")
                    .due("as(0, " + as + ")", above[kind].contains(String.valueOf(as)) ? 50 : Check.KIND);
            }
        }
        e.says("each HAS one THING (0 to 9),");
        e.empty().due("child(0, 0)", 0).due("child(0, 9)", 1).due("child(0, 10)", Check.BEYOND)
            .due("child(0, -1)", Check.BEYOND).have("0 9").due("set(0, 1, 9)", 0).due("set(0, 1, 10)", Check.BEYOND)
            .due("set(0, 1, -1)", Check.BEYOND).have("9 9").due("who(0)", 0).due("who(9)", 3);
        e.says("SWAPPED so often (0 at first, held to 9999),");
        e.yard("cheat 1; child 1; child 2").swapped("0 0 0").go("set(0, 2, 9998)").due("swap(0, 1)", 7)
            .swapped("9999 1 0").due("swap(0, 1)", 7).swapped("9999 2 0").due("swap(1, 0)", 7).swapped("9999 3 0")
            .due("now(5)", 9999 + 3);
        // 0 likes 2 more, 1 likes 1 more: they swap in the next round, as they would in a text.
        e.yard("child 1 likes 0 7 8; child 2 likes 0 9 3").go("set(0, 2, 9999); set(1, 2, 9998)")
            .due("on(0, 1, 1)", 9999).due("on(1, 1, 1)", 9999).due("rounds(1)", 2 * 9999).swapped("9999 9999")
            .tellDue("swap 0 1; swap 1 0", 2).swapped("9999 9999");
        e.says("and TRUST (0 to 99; 50 at first: how much others TRUST it).");
        e.empty().go("child(0, 0); child(4, 0)").trusts("50 50").due("set(0, 3, 99)", 50)
            .due("set(0, 3, 100)", Check.BEYOND).due("set(1, 3, 0)", 50).due("set(1, 3, -1)", Check.BEYOND)
            .trusts("99 0").due("swap(0, 1)", 0)
            .trusts("99 0").due("count(2)", 99);
        e.yard("new 0; nut 1 trust 0; king 1 trust 99").trusts("50 0 99");
    }

    /** A thing that so many have, asked of one of a kind that has thing 0 itself. */
    private void worth(int kind, int thing, int liked, int holders, int want) {
        Run run = e.empty().go("child(" + kind + ", 0); likes(0, " + thing + ", " + liked + ")");
        for (int i = thing == 0 ? 1 : 0; i < holders; i++) {
            run.go("child(0, " + thing + ")");
        }
        run.due("worth(0, " + thing + ")", want);
    }

    private void worthByHolders(int kind, int atNone, int atOne, int atTwo, int atSeven) {
        for (int liked = 0; liked <= 20; liked += 5) {
            worth(kind, 4, liked, 0, liked + atNone);
            worth(kind, 4, liked, 1, liked + atOne);
            worth(kind, 4, liked, 2, liked + atTwo);
            worth(kind, 4, liked, 7, liked + atSeven);
        }
    }

    private void worth() {
        e.passage("WORTH");
        e.says("WORTH (of a THING to a child; l: how much it LIKES that; n: how many CHILDREN HAVE it):");
        e.yard("child 3; king 3; new 3").go("likes(0, 3, 17); likes(1, 3, 4)").due("worth(0, 3)", 17)
            .due("worth(1, 3)", 4).due("worth(2, 3)", 10 + 3).due("worth(2, 1)", 7);
        e.says("CHILD: l.");
        worthByHolders(CHILD, 0, 0, 0, 0);
        worth(CHILD, 9, 8, 1, 8);
        e.says("KING: as CHILD, and 3, if n is 1.");
        worthByHolders(KING, 0, 3, 0, 0);
        worth(KING, 9, 8, 1, 11);
        e.says("SHY: as CHILD.");
        worthByHolders(SHY, 0, 0, 0, 0);
        worth(SHY, 9, 8, 1, 8);
        e.says("NUT: as CHILD, but -20, if it is thing 9.");
        worthByHolders(NUT, 0, 0, 0, 0);
        worth(NUT, 9, 0, 0, -20);
        worth(NUT, 9, 20, 0, -20);
        worth(NUT, 9, 20, 1, -20);
        worth(NUT, 9, 20, 7, -20);
        worth(NUT, 8, 20, 1, 20);
        e.yard("nut 9 likes 0").due("worth(0, 9)", -20).due("of(0, 4)", -20);
        e.says("CHEAT: as KING.");
        worthByHolders(CHEAT, 0, 3, 0, 0);
        worth(CHEAT, 9, 8, 1, 11);
        e.says("NEW: as SHY, and 1 for each that HAS it.");
        worthByHolders(NEW, 0, 1, 2, 7);
        worth(NEW, 0, 20, 8, 28);
        worth(NEW, 9, 8, 1, 9);
        e.says("(n as it is now, its own counted.)");
        worth(KING, 0, 5, 1, 8);
        worth(KING, 0, 5, 2, 5);
        worth(CHEAT, 0, 5, 1, 8);
        worth(NEW, 0, 5, 1, 6);
        e.yard("king 0; new 0; child 1").due("worth(0, 0)", 0).due("worth(1, 0)", 2).due("worth(0, 1)", 10)
            .go("set(1, 1, 1)").due("worth(0, 0)", 3).due("worth(1, 0)", 1).due("worth(0, 1)", 7)
            .due("worth(1, 1)", 9).go("swap(0, 1)").due("worth(0, 0)", 3).due("worth(1, 0)", 1)
            .due("worth(0, 1)", 7).due("worth(1, 1)", 9).go("image(); child(0, 0)").due("worth(0, 0)", 0)
            .due("worth(1, 0)", 2).go("undo()").due("worth(0, 0)", 3).tellDue("child 0", 1).due("worth(0, 0)", 0);
    }

    /**
     * One of a kind, alone with thing 0, asked for thing 2, which nobody has: it agrees from the least gain on (which
     * is above all gains if it never does).
     */
    private void agreesFrom(int kind, int swapped, int teacher, int least) {
        int own = kind == KING || kind == CHEAT ? 3 : kind == NEW ? 1 : 0;
        Run run = e.empty().go("child(" + kind + ", 0); set(0, 2, " + swapped + "); teacher(" + teacher + ")");
        run.go("likes(0, 0, 10)");
        for (int gain = -10; gain <= 10 - own; gain++) {
            run.go("likes(0, 2, " + (10 + own + gain) + ")").due("agrees(0, 2)", gain >= least ? 1 : 0);
        }
    }

    private void agrees() {
        int never = 99;
        e.passage("AGREES");
        e.says("AGREES (whether it gives what it HAS for another THING: by how much g that one is WORTH more to it; "
            + "s: how often it SWAPPED; with the TEACHER looking or not):");
        // By what it is worth, not by how much it is liked: here by who has it.
        e.yard("king 0 likes 0 0; child 1; child 0").due("agrees(0, 1)", 1).go("child(0, 1)").due("agrees(0, 1)", 0);
        e.yard("nut 9 likes 0").go("likes(0, 9, 20)").due("agrees(0, 0)", 1);
        e.yard("nut 0 likes 0").go("likes(0, 9, 20)").due("agrees(0, 9)", 0);
        e.says("CHILD: if g is above 0.");
        for (int teacher = 0; teacher < 2; teacher++) {
            agreesFrom(CHILD, 0, teacher, 1);
            agreesFrom(CHILD, 20, teacher, 1);
        }
        e.says("KING: if g is 3 or more.");
        for (int teacher = 0; teacher < 2; teacher++) {
            agreesFrom(KING, 0, teacher, 3);
            agreesFrom(KING, 20, teacher, 3);
        }
        e.says("SHY: as CHILD, but not when the TEACHER looks.");
        agreesFrom(SHY, 0, 0, 1);
        agreesFrom(SHY, 1, 0, 1);
        agreesFrom(SHY, 9999, 0, 1);
        agreesFrom(SHY, 0, 1, never);
        e.says("NUT: as CHILD.");
        for (int teacher = 0; teacher < 2; teacher++) {
            agreesFrom(NUT, 0, teacher, 1);
            agreesFrom(NUT, 20, teacher, 1);
        }
        e.says("CHEAT: if g is 0 or more, and s is below 20.");
        for (int teacher = 0; teacher < 2; teacher++) {
            agreesFrom(CHEAT, 0, teacher, 0);
            agreesFrom(CHEAT, 19, teacher, 0);
            agreesFrom(CHEAT, 20, teacher, never);
            agreesFrom(CHEAT, 9999, teacher, never);
        }
        e.yard("cheat 4").due("agrees(0, 4)", 1).go("set(0, 2, 20)").due("agrees(0, 4)", 0);
        e.says("NEW: as SHY, but only from 2 on, if s is 0.");
        agreesFrom(NEW, 0, 0, 2);
        agreesFrom(NEW, 1, 0, 1);
        agreesFrom(NEW, 9999, 0, 1);
        agreesFrom(NEW, 0, 1, never);
        agreesFrom(NEW, 1, 1, never);
    }

    private void asks(int kind, int inEven, int inOdd) {
        Run run = e.empty().go("child(" + kind + ", 0)");
        for (int round = 0; round < 4; round++) {
            run.due("now(0)", round).due("of(0, 5)", round % 2 == 0 ? inEven : inOdd).go("rounds(1)");
        }
        run.go("rounds(59)").due("of(0, 5)", inOdd).go("rounds(60)").due("of(0, 5)", inOdd);
        run.go("teacher(1)").due("of(0, 5)", inOdd).go("set(0, 2, 20); set(0, 3, 0)").due("of(0, 5)", inOdd);
    }

    private void asks() {
        e.passage("ASKS");
        e.says("ASKS (how many in a ROUND):");
        e.yard(ALL_KINDS).due("of(1, 5)", 7).due("of(0, 5)", 2);
        e.says("CHILD: 2.");
        asks(CHILD, 2, 2);
        e.says("KING: 7.");
        asks(KING, 7, 7);
        e.says("SHY: 1, in ROUNDS whose rest by 2 is 0, else none.");
        asks(SHY, 1, 0);
        e.says("NUT: as CHILD.");
        asks(NUT, 2, 2);
        e.says("CHEAT: as KING.");
        asks(CHEAT, 7, 7);
        e.says("NEW: as SHY, and 1.");
        asks(NEW, 2, 1);
    }

    private void loses(int kind, int want) {
        e.empty().go("child(" + kind + ", 0); child(0, 1)").due("of(0, 6)", want).go("swap(0, 1)")
            .due("of(0, 3)", 50 - want).go("swap(1, 0)").due("of(0, 3)", 50 - 2 * want).due("of(1, 3)", 50);
    }

    private void loses() {
        e.passage("LOSES");
        e.says("LOSES (TRUST by a swap):");
        e.yard(ALL_KINDS).due("of(4, 6)", 10).trusts("50 50 50 50 50 50");
        e.says("CHILD: 0.");
        loses(CHILD, 0);
        e.says("KING: 1.");
        loses(KING, 1);
        e.says("SHY: as CHILD.");
        loses(SHY, 0);
        e.says("NUT: as CHILD.");
        loses(NUT, 0);
        e.says("CHEAT: as KING, and 9.");
        loses(CHEAT, 10);
        e.says("NEW: as SHY.");
        loses(NEW, 0);
        e.says("(Others as the KIND above.)");
        // What a kind isn't named with it has from above: a nut its trust, a cheat its asking.
        e.yard(ALL_KINDS).due("of(3, 6)", 0).due("of(3, 5)", 2).due("of(4, 5)", 7).due("of(2, 6)", 0)
            .due("of(5, 6)", 0);
    }

    private void swap() {
        e.passage("A SWAP");
        e.says("A SWAP of two: each gets what the other one HAS;");
        e.yard("child 3; child 8; child 8").due("swap(0, 1)", 1).have("8 3 8").due("swap(0, 1)", 10).have("3 8 8")
            .due("swap(1, 2)", 1).have("3 8 8");
        e.says("SWAPPED of both is 1 more,");
        e.yard("child 3; child 8; child 8").go("swap(0, 1)").swapped("1 1 0").go("swap(1, 2)").swapped("1 2 1");
        e.says("TRUST of both what each LOSES less (0 at least).");
        e.yard("cheat 3 trust 11; king 8 trust 2; child 1 trust 0").go("swap(0, 1)").trusts("1 1 0").go("swap(0, 1)")
            .trusts("0 0 0").go("swap(0, 1)").trusts("0 0 0").go("swap(2, 0)").trusts("0 0 0");
        e.yard("cheat 3 trust 10; cheat 8 trust 9").go("swap(0, 1)").trusts("0 0");
        // In a round, and on: 0 asks 1, which it trusts.
        e.yard("cheat 1 trust 9 likes 0 0 20; cheat 2 trust 12 likes 0 20 0").due("on(0, 1, 2)", 0)
            .due("on(1, 1, 2)", 2).go("rounds(1)").trusts("0 2").tellDue("swap 0 1", 1).trusts("0 0");
    }

    private void over() {
        e.passage("OVER");
        e.says("OVER: no two that are there would SWAP (both AGREE, what they HAVE isn't the same).");
        e.empty().due("now(4)", 1).go("child(4, 3)").due("now(4)", 1).go("child(4, 3)").due("now(4)", 1)
            .due("over()", 0);
        // 0 agrees to 3, but 1 doesn't agree to 8; then it does.
        e.yard("child 8; child 3").due("now(4)", 1).go("likes(1, 8, 10)").due("now(4)", 1).go("likes(1, 8, 11)")
            .due("now(4)", 0).go("set(0, 3, 0); set(1, 3, 0)").due("now(4)", 0).go("set(1, 1, 8)").due("now(4)", 1);
        e.yard("child 3;".repeat(6) + "child 8; shy 3").due("now(4)", 1).go("likes(7, 8, 20)").due("now(4)", 0)
            .go("teacher(1)").due("now(4)", 1);
    }

    private void onAndGlad() {
        e.passage("2.");
        e.says("2. ON: n ROUNDS go on with all as it is; nothing changes.");
        e.yard("shy 8; shy 3").go("rounds(1); likes(1, 8, 20)").due("on(0, 0, 0)", 8)
            .due("on(0, 1, 0)", 8).due("on(0, 2, 0)", 3).due("on(0, 2, 1)", 1).due("now(0)", 1).have("8 3")
            .swapped("0 0").go("teacher(1)").due("on(0, 2, 0)", 8).due("on(0, 100, 0)", 8);
        e.same("on(0, 100, 0)");
        e.same("glad(100)");
        e.says("GLAD: one's WORTH of what it HAS.");
        e.yard("child 3; king 1; new 9; nut 9").due("of(0, 4)", 10).due("of(1, 4)", 7 + 3).due("of(2, 4)", 8 + 2)
            .due("of(3, 4)", -20).due("now(3)", 10 + 10 + 10 - 20).due("on(1, 0, 3)", 10).due("glad(0)", 10);
    }

    private void sheets() {
        e.passage("3.");
        e.says("3. SHEETS 0 to 3 are rows of at most 40 numbers");
        for (int s = 0; s < 4; s++) {
            e.empty().due("sheet(" + s + ", 8, 40)", 40).due("write(" + s + ", 39, 1)", 0)
                .due("write(" + s + ", 40, 1)", Check.BEYOND).due("sheet(" + s + ", 8, 41)", Check.BEYOND)
                .due("write(" + s + ", 39, 1)", 1);
        }
        e.empty().due("sheet(4, 8, 40)", Check.BEYOND).due("sheet(-1, 8, 40)", Check.BEYOND);
        e.says("of 8, 16 or 64 bits,");
        e.empty().due("sheet(0, 8, 1)", 1).due("sheet(0, 16, 1)", 1).due("sheet(0, 64, 1)", 1)
            .due("sheet(0, 32, 1)", Check.BEYOND).due("sheet(0, 1, 1)", Check.BEYOND);
        e.says("or MISSING (at first).");
        for (int s = 0; s < 4; s++) {
            e.empty().due("write(" + s + ", 0, 0)", Check.MISSING).due("copy(" + s + ", 0, 0, 0, 0)", Check.MISSING)
                .go("child(0, 0); child(0, 0)").due("lays(" + s + ", 0)", Check.MISSING)
                .due("book(" + s + ", 0)", Check.MISSING).due("read(" + s + ", 0, 1)", Check.MISSING)
                .due("sheet(" + s + ", 64, 0)", 0).due("write(" + s + ", 0, 0)", Check.BEYOND)
                .due("lays(" + s + ", 0)", 0);
        }
    }
}
