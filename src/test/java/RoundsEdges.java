/** How a round goes, and promises 16 to 20. */
final class RoundsEdges {
    /** Three to whom all is worth the same, until nobody is trusted. */
    private static final String THREE_CHEATS = "cheat 1 likes 0 5 5 5; cheat 2 likes 0 5 5 5; cheat 3 likes 0 5 5 5";

    private final Edges e;

    RoundsEdges(Edges e) {
        this.e = e;
    }

    void ask() {
        aRound();
        rounds();
        on();
        glad();
        gets();
        over();
    }

    /**
     * A yard in a round whose rest by 2 is given. One of a kind, whom nobody asks, likes what others have by 20, 18, ..
     * 8 (child 1 to 7, each with the thing of its number); of these only one likes what it has, and they swap nothing
     * among one another.
     */
    private Run onlyOneAgrees(int kind, int rest, int which) {
        Run run = e.empty();
        if (rest == 1) {
            run.go("rounds(1)");
        }
        run.go("child(" + kind + ", 0); set(0, 3, 0)");
        for (int c = 1; c < 8; c++) {
            run.go("child(0, " + c + "); likes(0, " + c + ", " + (22 - 2 * c) + ")");
        }
        return run.go("likes(" + which + ", 0, 20)");
    }

    private void aRound() {
        e.passage("A ROUND");
        e.says("A ROUND goes: CHILDREN by numbers:");
        e.inRoundOne("child 0; child 1; shy 3 likes 20 20").due("rounds(1)", 2).have("3 1 0");
        e.inRoundOne("child 1; child 0; shy 3 likes 20 20").due("rounds(1)", 2).have("3 0 1");
        // 1 has been asked by 0 before its own turn comes, and it comes all the same.
        e.inRoundOne("child 0; child 1 likes 5 1 9; shy 2 likes 20 0 3").due("rounds(1)", 4).have("1 2 0")
            .swapped("1 2 1");
        e.says("each ASKS others, one by one, by how much what these HAVE is WORTH to it (most first; of several the "
            + "least child;");
        e.inRoundOne("king 0; shy 1 likes 20; shy 3 likes 20; shy 6 likes 20").due("rounds(1)", 2).have("3 1 0 6");
        // To a king thing 6, which one alone has, is worth more than thing 3, which it likes more.
        e.inRoundOne("king 0; shy 3 likes 20; shy 3 likes 20; shy 6 likes 20").due("rounds(1)", 2).have("6 3 3 0");
        e.inRoundOne("king 0; shy 6; shy 3 likes 20; shy 3 likes 20").due("rounds(1)", 2).have("3 6 0 3");
        e.inRoundOne("child 0; shy 4 likes 20; shy 2 likes 20").go("likes(0, 2, 6)").due("rounds(1)", 2).have("4 0 2");
        e.inRoundOne("child 0; shy 4 likes 20; shy 2 likes 20").go("likes(0, 2, 7)").due("rounds(1)", 2).have("2 4 0");
        e.inRoundOne("shy 2 likes 20; child 0; shy 4 likes 20").go("likes(1, 2, 6)").due("rounds(1)", 2).have("0 2 4");
        e.says("by what all HAVE as its turn begins),");
        // 0 gets thing 3 from 2; so 1, which asks but one, asks 0 for it.
        e.yard("child 0 likes 0 20; shy 1; child 3 likes 20").due("rounds(1)", 4).have("1 3 0").swapped("2 1 1");
        e.says("so many at most,");
        soManyAtMost();
        e.says("but none (and these count for nothing) whose TRUST is below 10 or that HAS the same THING as it does:");
        notTrusted();
        sameThing();
        e.says("if it AGREES and the other one AGREES, they SWAP,");
        e.inRoundOne("child 0; shy 3").due("rounds(1)", 0).have("0 3");
        e.inRoundOne("child 3; shy 0").due("rounds(1)", 0).have("3 0");
        e.inRoundOne("child 0; shy 3 likes 11").due("rounds(1)", 2).have("3 0");
        e.inRoundOne("child 0; shy 3 likes 10").due("rounds(1)", 0).have("0 3");
        e.inRoundOne("child 0; shy 3 likes 11").go("teacher(1)").due("rounds(1)", 0).have("0 3");
        e.inRoundOne("child 0; king 3 likes 12").due("rounds(1)", 0).have("0 3");
        e.inRoundOne("child 0; king 3 likes 13").due("rounds(1)", 2).have("3 0");
        e.inRoundOne("child 0; new 3 likes 11").due("rounds(1)", 0).have("0 3");
        e.inRoundOne("child 0; new 3 likes 11").go("set(1, 2, 1)").due("rounds(1)", 3).have("3 0");
        e.says("and it ASKS no more in this ROUND.");
        // It might swap on with 2, which likes what it gets from 1, as both are worth the same to it.
        e.inRoundOne("cheat 1 likes 0 5 5 5; shy 2 likes 0 20; shy 3 likes 0 0 20 0").due("rounds(1)", 2).have("2 1 3")
            .due("rounds(1)", 4).have("3 1 2");
        cheatsStopAtTwenty();
        e.says("ROUND is 1 more.");
        e.empty().due("rounds(1)", 0).due("now(0)", 1).due("rounds(60)", 0).due("now(0)", 61)
            .tellDue("cheat 1; cheat 2", 2).go("rounds(1)").due("now(0)", 62);
    }

    private void soManyAtMost() {
        int[][] asks = {{2, 2}, {7, 7}, {1, 0}, {2, 2}, {7, 7}, {2, 1}};
        for (int kind = 0; kind < 6; kind++) {
            for (int rest = 0; rest < 2; rest++) {
                for (int which = 1; which < 8; which++) {
                    onlyOneAgrees(kind, rest, which).due("of(0, 5)", asks[kind][rest])
                        .due("rounds(1)", which <= asks[kind][rest] ? 2 : 0)
                        .due("of(" + which + ", 1)", which <= asks[kind][rest] ? 0 : which);
                }
            }
        }
    }

    private void notTrusted() {
        onlyOneAgrees(0, 0, 2).go("set(2, 3, 10)").due("rounds(1)", 2);
        onlyOneAgrees(0, 0, 2).go("set(2, 3, 9)").due("rounds(1)", 0);
        onlyOneAgrees(0, 0, 2).go("set(2, 3, 0)").due("rounds(1)", 0);
        onlyOneAgrees(1, 1, 7).go("set(7, 3, 10)").due("rounds(1)", 2);
        onlyOneAgrees(1, 1, 7).go("set(7, 3, 9)").due("rounds(1)", 0);
        // A third is asked as the second, if one before it isn't trusted.
        onlyOneAgrees(0, 0, 3).go("set(1, 3, 9)").due("rounds(1)", 2);
        onlyOneAgrees(0, 0, 3).go("set(1, 3, 10)").due("rounds(1)", 0);
        onlyOneAgrees(0, 0, 3).go("set(2, 3, 9)").due("rounds(1)", 2);
        onlyOneAgrees(2, 0, 7).go("set(1, 3, 0); set(2, 3, 0); set(3, 3, 0); set(4, 3, 0); set(5, 3, 0)")
            .due("rounds(1)", 0).go("rounds(1); set(6, 3, 0)").due("rounds(1)", 2);
        // Trust that is lost within a round counts at once: 2 has lost it to 0 when 1 would ask it.
        e.inRoundOne("child 0; child 1; cheat 3 trust 19 likes 20 20").due("rounds(1)", 2).trusts("50 50 9")
            .have("3 1 0");
    }

    private void sameThing() {
        e.inRoundOne("cheat 5; cheat 5").due("rounds(1)", 0).swapped("0 0");
        // Thing 2 is worth as much to 0 as its own, by the 3 for being alone; 1, which comes before, has the same as 0.
        e.inRoundOne("cheat 5; cheat 5; shy 2 likes 0 0 0").go("likes(0, 5, 3); likes(0, 2, 0); likes(2, 5, 1)")
            .go("likes(1, 2, 0); likes(1, 5, 20)").due("rounds(1)", 2).have("2 5 5").swapped("1 0 1");
        // Those with the same thing take no ask away: the last one is the second that 0 asks.
        e.inRoundOne("child 3; shy 3; shy 3; shy 1 likes 0 20; shy 2 likes 0 0 3 20")
            .go("likes(0, 1, 12); likes(0, 2, 11)").due("rounds(1)", 2).have("2 3 3 1 3");
    }

    /** Two who swap with each other till one has swapped twenty times: in a round, too. */
    private void cheatsStopAtTwenty() {
        String both = "cheat 1 trust 99 likes 0 5 5; cheat 2 trust 99 likes 0 5 5";
        e.yard(both).go("set(0, 2, 19); set(1, 2, 10)").due("rounds(1)", 31).swapped("20 11").due("rounds(1)", 31);
        e.yard(both).go("set(0, 2, 18); set(1, 2, 10)").due("rounds(1)", 32).swapped("20 12").due("rounds(60)", 32);
        // 99, 89, .. 19 are enough to be asked, 9 isn't: nine swaps.
        e.yard(both).due("rounds(60)", 18).trusts("9 9").due("now(4)", 0);
    }

    private Run late(int round) {
        Run run = e.empty();
        for (int i = 0; i < round / 60; i++) {
            run.go("rounds(60)");
        }
        return round % 60 == 0 ? run : run.go("rounds(" + round % 60 + ")");
    }

    private void rounds() {
        e.passage("16");
        e.says("n ROUNDS go (1 to 60):");
        e.range("rounds(?)", 1, 60);
        e.empty().due("rounds(1)", 0).due("now(0)", 1).due("rounds(60)", 0).due("now(0)", 61);
        // One swap in round 0, and one in round 2.
        String shy = "shy 0 likes 1 5 0 9; shy 1 likes 20 7 0 0; shy 3 likes 0 15 0 10; shy 6 likes 0 0 0 0";
        String likes = "likes(0, 6, 0); likes(1, 6, 0); likes(2, 6, 20)";
        e.yard(shy).go(likes).due("rounds(1)", 2).due("rounds(1)", 2).due("rounds(1)", 4).have("3 0 1 6");
        e.yard(shy).go(likes).due("rounds(2)", 2).have("1 0 3 6");
        e.yard(shy).go(likes).due("rounds(3)", 4).have("3 0 1 6");
        e.yard(shy).go(likes).due("rounds(60)", 4).have("3 0 1 6");
        e.says("SWAPPED of all together then.");
        e.empty().due("rounds(60)", 0);
        e.yard("child 0; child 3").go("set(0, 2, 9999); set(1, 2, 7)").due("rounds(1)", 10006).go("likes(1, 0, 20)")
            .due("rounds(1)", 9999 + 8);
        Run all = e.empty();
        for (int c = 0; c < 8; c++) {
            all.go("child(0, 0); set(" + c + ", 2, 9999)");
        }
        all.due("rounds(60)", 8 * 9999);
        e.says("BEYOND.");
        e.refused("rounds(0)", Check.BEYOND);
        e.refused("rounds(61)", Check.BEYOND);
        late(99999).due("rounds(0)", Check.BEYOND).due("rounds(61)", Check.BEYOND).due("rounds(60)", Check.STATE);
        e.says("STATE: ROUND would be above 99999.");
        late(99939).due("rounds(60)", 0).due("now(0)", 99999).due("rounds(1)", Check.STATE).due("now(0)", 99999);
        late(99940).due("rounds(60)", Check.STATE).due("now(0)", 99940).due("rounds(59)", 0).due("now(0)", 99999);
        e.refused("rounds(60); ".repeat(1665) + "rounds(37)", "rounds(60)", Check.STATE);
    }

    private void on() {
        e.passage("17");
        e.says("HAS (what 0), SWAPPED (1), TRUST (2), GLAD (3) of one ON n ROUNDS (0 to 100).");
        e.yard(THREE_CHEATS).due("on(0, 0, 0)", 1).due("on(0, 0, 1)", 0).due("on(0, 0, 2)", 50).due("on(0, 0, 3)", 8)
            .due("on(0, 1, 0)", 3).due("on(0, 1, 1)", 3).due("on(0, 1, 2)", 20).due("on(0, 1, 3)", 8)
            .due("on(2, 100, 0)", 2).due("on(2, 100, 1)", 5).due("on(2, 100, 2)", 0).due("on(2, 100, 3)", 8)
            .due("now(0)", 0).have("1 2 3").swapped("0 0 0").trusts("50 50 50");
        late(99999).go("child(0, 0); child(0, 3); likes(1, 0, 20)").due("on(0, 1, 0)", 3).due("on(0, 100, 0)", 3)
            .due("now(0)", 99999);
        e.same("on(0, 100, 2)");
        e.says("BEYOND.");
        e.children("on(?, 0, 0)");
        e.range("on(0, ?, 0)", 0, 100);
        e.range("on(0, 0, ?)", 0, 3);
    }

    private void glad() {
        e.passage("18");
        e.says("GLAD of all together ON n ROUNDS (0 to 100).");
        e.empty().due("glad(0)", 0).due("glad(100)", 0);
        e.yard("child 0; child 3 likes 20; nut 9").due("glad(0)", 10 - 20).due("glad(1)", 30 - 20)
            .due("glad(100)", 30 - 20).due("now(3)", 10 - 20).due("now(0)", 0);
        e.yard("child 3").due("glad(0)", 10).go("likes(0, 3, 20)").due("glad(0)", 20).go("child(0, 1)")
            .due("glad(100)", 27).due("glad(0)", 27);
        e.same("glad(100)");
        e.says("BEYOND.");
        e.range("glad(?)", 0, 100);
    }

    private void gets() {
        e.passage("19");
        e.says("In how many ROUNDS (0 to 100) ON one HAS a THING first.");
        // They have 1 2 3, 3 2 1, 3 1 2, 2 3 1, and at last 1 3 2.
        e.yard(THREE_CHEATS).due("gets(0, 1)", 0).due("gets(0, 3)", 1).due("gets(0, 2)", 3).due("gets(1, 2)", 0)
            .due("gets(1, 1)", 2).due("gets(1, 3)", 3).due("gets(2, 1)", 1).due("gets(2, 2)", 2).due("now(0)", 0);
        e.same("gets(2, 3)");
        e.says("BEYOND.");
        e.children("gets(?, 0)");
        e.range("gets(0, ?)", 0, 9);
        e.says("NONE.");
        e.yard(THREE_CHEATS).due("gets(0, 4)", Check.NONE).due("gets(0, 0)", Check.NONE);
        e.yard("child 3").due("gets(0, 3)", 0).due("gets(0, 4)", Check.NONE).due("gets(1, 10)", Check.BEYOND);
        e.refused("gets(0, 8)", Check.NONE);
    }

    private void over() {
        e.passage("20");
        e.says("In how many ROUNDS (0 to 100) ON it is OVER first.");
        e.empty().due("over()", 0).go("child(0, 0)").due("over()", 0).go("child(0, 3)").due("over()", 0)
            .go("likes(1, 0, 20)").due("over()", 1).due("now(0)", 0).due("now(4)", 0);
        e.yard("shy 0; shy 3").go("rounds(1); likes(1, 0, 20)").due("over()", 2).go("rounds(1)").due("over()", 1)
            .go("teacher(1)").due("over()", 0);
        e.changes("set(0, 1, 3); set(2, 1, 3); set(5, 1, 3); set(6, 1, 3)", "over()", "");
        e.says("NONE.");
        // They would, but neither is trusted.
        e.yard("child 3 trust 0; child 0 trust 0").go("likes(0, 0, 20)").due("now(4)", 0).due("over()", Check.NONE)
            .go("set(0, 3, 10)").due("over()", 1);
        e.yard(THREE_CHEATS).due("over()", Check.NONE);
        e.refused("over()", Check.NONE);
    }
}
