/** Promises 21 to 26: what is best. */
final class BestEdges {
    private static final String EIGHT_ALIKE = "child 4;".repeat(7) + "child 4";

    private final Edges e;

    BestEdges(Edges e) {
        this.e = e;
    }

    void ask() {
        first();
        bring();
        kind();
        trust();
        away();
        winner();
    }

    private void first() {
        e.passage("21");
        e.says("With whom one had best SWAP at once now (others),");
        // Whether they agree or not, are trusted or not, and a teacher looks or not.
        e.yard("shy 3; shy 8 trust 0; shy 6 trust 0").go("teacher(1)").due("first(0, 0)", 2).due("first(1, 0)", 0)
            .due("first(2, 0)", 0).due("first(1, 40)", 0);
        e.yard("child 3; child 0").due("first(0, 0)", 1).due("first(1, 0)", 0);
        // That swap counts as one: at 19 a cheat can't go on from 1 to what 2 has.
        String by = "cheat 0; child 1; child 3 likes 0 20";
        e.yard(by).go("set(0, 2, 18)").due("first(0, 1)", 1).go("set(0, 2, 19)").due("first(0, 1)", 2);
        e.says("so that it is GLAD most ON n ROUNDS (0 to 40);");
        e.yard(by).due("first(0, 0)", 2).due("first(0, 1)", 1).due("first(0, 40)", 1);
        // In round 1 shy ones ask nobody: it takes two rounds to come to thing 3 by way of 1.
        e.inRoundOne("shy 0; shy 1; shy 3 likes 0 20").due("first(0, 0)", 2).due("first(0, 1)", 2)
            .due("first(0, 2)", 1);
        e.yard("king 0; child 3; child 3; child 6").due("first(0, 0)", 3);
        e.same("first(2, 40)");
        e.says("of several the least.");
        e.yard(EIGHT_ALIKE).due("first(0, 0)", 1).due("first(1, 0)", 0).due("first(7, 40)", 0);
        e.yard("child 0; child 3; child 3; child 6").due("first(0, 0)", 1).due("first(3, 0)", 1);
        e.says("BEYOND.");
        e.children("first(?, 0)");
        e.range("first(6, ?)", 0, 40);
        e.says("NONE: there is no other one.");
        e.yard("child 0").due("first(0, 0)", Check.NONE).due("first(0, 40)", Check.NONE)
            .due("first(0, 41)", Check.BEYOND).due("first(0, -1)", Check.BEYOND).due("first(1, 0)", Check.BEYOND)
            .due("status(3)", 2).due("count(0)", 1).go("child(0, 0)").due("first(0, 0)", 1);
    }

    private void bring() {
        e.passage("22");
        e.says("The THING that one had best HAVE now,");
        e.yard("nut 0").due("bring(0, 0)", 3).go("likes(0, 9, 20)").due("bring(0, 0)", 3).go("turn(0, 0)")
            .due("bring(0, 0)", 9).go("likes(0, 0, 20)").due("bring(0, 0)", 0);
        // Who has what goes with it: a king had best be alone with a thing, a new one not.
        e.yard("king 3; child 3; child 6").due("bring(0, 0)", 9).go("turn(0, 5)").due("bring(0, 0)", 3)
            .go("child(0, 6); child(0, 6)").due("bring(0, 0)", 6);
        e.says("so that it is GLAD most ON n ROUNDS (0 to 40);");
        // For thing 0 alone 1 gives what 0 likes by 20.
        String by = "child 0; shy 3 likes 20 0 0 10";
        e.yard(by).go("likes(0, 3, 20)").due("bring(0, 0)", 3).due("bring(0, 1)", 0).due("bring(0, 40)", 0);
        e.inRoundOne("shy 4; shy 3 likes 20").go("likes(0, 3, 20)").due("bring(0, 0)", 3).due("bring(0, 1)", 3)
            .due("bring(0, 2)", 0).due("of(0, 1)", 4);
        e.same("bring(2, 40)");
        e.says("of several the least.");
        Run alike = e.yard("child 4");
        for (int t = 0; t < 10; t++) {
            alike.go("likes(0, " + t + ", 5)");
        }
        alike.due("bring(0, 0)", 0).go("likes(0, 0, 4)").due("bring(0, 40)", 1).go("likes(0, 8, 6); likes(0, 9, 6)")
            .due("bring(0, 0)", 8).go("likes(0, 9, 7)").due("bring(0, 0)", 9);
        // All are worth less than nothing, or nothing: the nut boy's own.
        Run nut = e.yard("nut 9");
        for (int t = 0; t < 10; t++) {
            nut.go("likes(0, " + t + ", 0)");
        }
        nut.due("bring(0, 0)", 0);
        e.says("BEYOND.");
        e.children("bring(?, 0)");
        e.range("bring(6, ?)", 0, 40);
    }

    private void kind() {
        e.passage("23");
        e.says("The KIND as one of which one comes to HAVE what it LIKES most ON n ROUNDS (0 to 40);");
        // A child asks two, a king seven; in round 2 the last one asks, too.
        e.inRoundOne("shy 0; shy 3; shy 6; shy 1 likes 20").due("kind(0, 0)", 0).due("kind(0, 1)", 1)
            .due("kind(0, 2)", 0).due("kind(0, 40)", 0).due("of(0, 0)", 2);
        e.inRoundOne("shy 0; shy 3; shy 1 likes 20").due("kind(0, 1)", 0);
        // What it likes, not what it is worth to a kind.
        e.yard("king 3; child 6").due("kind(0, 0)", 0).due("kind(0, 40)", 0);
        e.yard("new 3; child 3").due("kind(0, 0)", 0);
        e.yard("nut 9").due("kind(0, 0)", 0);
        shyAtBest();
        nutAtBest();
        cheatAtBest();
        newAtBest();
        e.same("kind(3, 40)");
        e.says("of several the least.");
        e.yard(EIGHT_ALIKE).due("kind(0, 0)", 0).due("kind(7, 40)", 0);
        e.says("BEYOND.");
        e.children("kind(?, 0)");
        e.range("kind(6, ?)", 0, 40);
    }

    /** Who asks in round 1 gets thing 1, for which 2, which comes to have thing 3 in that round, gives it to nobody. */
    private void shyAtBest() {
        e.inRoundOne("child 0 likes 1 5 0 20; shy 1 likes 20 0; child 4 likes 20 0 0 10; shy 3 likes 0 0 0 10")
            .go("likes(0, 4, 0); likes(2, 4, 0); likes(3, 4, 20)").due("kind(0, 1)", 0).due("on(0, 1, 0)", 1)
            .due("kind(0, 2)", 2).due("kind(0, 40)", 2).due("of(0, 0)", 0);
    }

    /** He alone gives nuts for thing 1, which he likes less, and for which there is what he likes most. */
    private void nutAtBest() {
        e.inRoundOne("child 9 likes 0 5 0 20; shy 1 likes 0 1 0 0; shy 3 likes 0 20")
            .go("likes(0, 9, 10); likes(1, 9, 20)").due("kind(0, 1)", 0).due("kind(0, 2)", 3).due("kind(0, 40)", 3);
    }

    /** By way of what it likes as much as its own. */
    private void cheatAtBest() {
        e.inRoundOne("child 0 likes 5 5 0 20; shy 1 likes 20 1 0 0; shy 3 likes 0 20").due("kind(0, 1)", 0)
            .due("kind(0, 2)", 4).due("kind(0, 40)", 4);
    }

    /** By way of what it likes less, but what four have. */
    private void newAtBest() {
        e.yard("king 0 likes 5 4 0 20; shy 1 likes 20 1 0 0; shy 1 likes 0 20; shy 1 likes 0 20; shy 1 likes 0 20; "
            + "shy 3 likes 0 20").due("kind(0, 0)", 0).due("kind(0, 1)", 5).due("kind(0, 40)", 5);
    }

    private void trust() {
        e.passage("24");
        e.says("The least TRUST (0 to 99) of one now with which it is GLAD as much as v (-20 to 40), or more,");
        // Asked by 0 in round 1, as it asks nobody itself: from 10 on.
        Run asked = e.inRoundOne("child 0; shy 9 likes 20");
        asked.due("trust(1, 1, 20)", 10).due("trust(1, 1, 9)", 10).due("trust(1, 1, 8)", 0)
            .due("trust(1, 1, 21)", Check.NONE).due("trust(1, 1, -20)", 0).due("trust(1, 1, 40)", Check.NONE)
            .go("set(1, 3, 0)").due("trust(1, 1, 20)", 10).due("of(1, 3)", 0);
        // Asked by 1 first, and by 2 for what it has from 1: a king loses 1 by it, a cheat 10.
        String twice = " 0 likes 0 5 0 20; child 1 trust 0 likes 20 0 0 0; child 3 trust 0 likes 0 20 0 1";
        e.yard("king" + twice).due("trust(0, 1, 8)", 10).due("trust(0, 1, 23)", 11).due("trust(0, 1, 24)", Check.NONE);
        e.yard("cheat" + twice).due("trust(0, 1, 8)", 10).due("trust(0, 1, 9)", 20).due("trust(0, 1, 23)", 20);
        ninetyIsLeast();
        e.yard("nut 9").due("trust(0, 0, -20)", 0).due("trust(0, 0, -19)", Check.NONE);
        // A new one's most: 20, and 8 that have it.
        e.yard("new 0 likes 20" + ";child 0".repeat(7))
            .due("trust(0, 0, 28)", 0).due("trust(0, 40, 29)", Check.NONE);
        e.says("ON n ROUNDS (0 to 40).");
        asked.due("trust(1, 0, 20)", Check.NONE).due("trust(1, 2, 20)", 0).due("trust(1, 40, 20)", 0)
            .due("now(0)", 1);
        e.same("trust(4, 40, -20)");
        e.says("BEYOND.");
        e.children("trust(?, 0, 0)");
        e.range("trust(6, ?, 0)", 0, 40);
        e.range("trust(6, 0, ?)", -20, 40);
        e.says("NONE.");
        e.refused("trust(0, 40, 40)", Check.NONE);
        e.yard("child 0").due("trust(0, 0, 1)", Check.NONE).due("trust(0, 0, 0)", 0)
            .due("trust(0, 41, 40)", Check.BEYOND);
    }

    /**
     * The most that can ever be needed: a cheat to whom all but thing 9 is worth the same is asked nine times, by 1 to
     * 6 for the thing before theirs, by 1 for thing 6, by 2 for thing 0, and by 7, for thing 1 alone, for which it gets
     * thing 9. Nobody else is trusted.
     */
    private void ninetyIsLeast() {
        Run run = e.empty();
        for (int c = 0; c < 8; c++) {
            run.go("child(" + (c == 0 ? 4 : 0) + ", " + (c == 7 ? 9 : c) + "); set(" + c + ", 3, 0)");
            for (int t = 0; t < 10; t++) {
                int liked = c == 0 ? t == 9 ? 20 : 5 : t == c ? 1 : t == c - 1 ? 2 : 0;
                run.go("likes(" + c + ", " + t + ", " + liked + ")");
            }
        }
        run.go("likes(1, 6, 3); likes(2, 0, 3); likes(7, 6, 0); likes(7, 9, 1); likes(7, 1, 2)")
            .due("trust(0, 1, 23)", Check.NONE).due("trust(0, 2, 23)", 90).due("trust(0, 40, 9)", 90)
            .due("trust(0, 40, 8)", 0).go("set(0, 3, 89)").due("on(0, 40, 0)", 1).go("set(0, 3, 90)")
            .due("on(0, 40, 0)", 9).due("on(0, 40, 1)", 9).due("on(0, 40, 2)", 0);
    }

    private void away() {
        e.passage("25");
        e.says("Who, staying away now (TRUST 0), makes GLAD of all together most ON n ROUNDS (0 to 40);");
        // 0 asks 1 first, who gains 1 by it; with 1 away it asks 2, who gains 11.
        e.inRoundOne("child 0; shy 3 likes 11; shy 6 likes 20").due("away(0)", 0).due("away(1)", 1)
            .due("away(40)", 1).trusts("50 50 50").due("now(0)", 1);
        // Staying away is having no trust: it still asks others, so 0 does no harm, but 1 does; or, below, 0.
        e.inRoundOne("child 0; shy 3 likes 11").due("away(1)", 0).due("glad(1)", 10 + 11);
        e.inRoundOne("shy 3 likes 11; child 0").due("away(1)", 1);
        // What another question found best before is forgotten.
        e.yard("child 3; child 8").go("likes(0, 9, 20)").due("bring(0, 0)", 9).due("away(0)", 0).due("bring(0, 0)", 9)
            .due("winner(0)", 0).due("bring(0, 0)", 9).due("first(0, 0)", 1).due("bring(0, 0)", 9).due("kind(0, 0)", 0);
        e.same("away(40)");
        e.says("of several the least.");
        e.yard(EIGHT_ALIKE).due("away(0)", 0).due("away(40)", 0);
        e.yard("nut 9").due("away(0)", 0);
        e.says("BEYOND.");
        e.range("away(?)", 0, 40);
        e.empty().due("away(41)", Check.BEYOND).due("away(-1)", Check.BEYOND);
        e.says("NONE: nobody is there.");
        e.empty().due("away(0)", Check.NONE).due("away(40)", Check.NONE).due("status(3)", 2).go("child(0, 0)")
            .due("away(0)", 0);
    }

    private void winner() {
        e.passage("26");
        e.says("Who is GLAD more by most ON n ROUNDS (0 to 100) than now;");
        e.yard("child 3; child 1; child 2 likes 0 8").go("likes(1, 2, 8)").due("winner(0)", 0).due("winner(1)", 2)
            .due("winner(100)", 2).go("likes(1, 2, 13)").due("winner(1)", 1).due("now(0)", 0).swapped("0 0 0");
        // By how much more, not by how much.
        e.yard("child 3 likes 0 0 0 10; nut 9; child 0").go("likes(2, 9, 20); likes(2, 0, 19)").due("winner(1)", 1);
        e.inRoundOne("shy 3; shy 0").go("likes(0, 0, 11)").due("winner(1)", 0).due("winner(2)", 1);
        e.same("winner(100)");
        e.says("of several the least.");
        e.yard(EIGHT_ALIKE).due("winner(0)", 0).due("winner(100)", 0);
        e.yard("child 3; child 1; child 2 likes 0 8").go("likes(1, 2, 12)").due("winner(1)", 1);
        e.says("BEYOND.");
        e.range("winner(?)", 0, 100);
        e.empty().due("winner(101)", Check.BEYOND).due("winner(-1)", Check.BEYOND);
        e.says("NONE: nobody is there.");
        e.empty().due("winner(0)", Check.NONE).due("winner(100)", Check.NONE).due("status(3)", 2).go("child(0, 0)")
            .due("winner(0)", 0);
    }
}
