/** Promises 1 to 15: the yard and its children. */
final class ChildrenEdges {
    private static final int[] LIKED_AT_FIRST = {0, 7, 3, 10, 6, 2, 9, 5, 1, 8};
    private static final String EIGHT = "child 9;king 8;shy 7;nut 6;cheat 5;new 4;child 3;king 2";

    private final Edges e;

    ChildrenEdges(Edges e) {
        this.e = e;
    }

    void ask() {
        newObject();
        teacher();
        now();
        who();
        child();
        of();
        set();
        likes();
        worth();
        agrees();
        turn();
        as();
        swap();
        mates();
        ring();
    }

    private void newObject() {
        e.passage("1");
        e.says("No CHILDREN;");
        e.empty().due("count(0)", 0).due("of(0, 0)", Check.BEYOND).due("now(2)", 0).due("count(3)", 10);
        e.says("THE TAPE is empty,");
        e.empty().due("count(1)", 0).due("wipe()", 0).due("yard()", -1);
        e.says("no image is kept.");
        e.empty().due("tear()", 0).due("undo()", Check.NONE);
    }

    private void teacher() {
        e.passage("2");
        e.says("TEACHER becomes v: what it was.");
        e.empty().due("teacher(0)", 0).due("teacher(1)", 0).due("teacher(1)", 1).due("now(1)", 1).due("teacher(0)", 1)
            .due("now(1)", 0);
        e.changes("teacher(1)", "now(1) 0>1");
        e.says("BEYOND.");
        e.range("teacher(?)", 0, 1);
        e.empty().go("teacher(1)").due("teacher(2)", Check.BEYOND).due("teacher(-1)", Check.BEYOND).due("now(1)", 1);
    }

    private void now() {
        e.passage("3");
        e.says("What 0 ROUND,");
        e.empty().due("now(0)", 0).go("rounds(60)").due("now(0)", 60);
        e.same("now(0)");
        e.says("1 TEACHER,");
        e.empty().due("now(1)", 0).go("teacher(1)").due("now(1)", 1);
        e.says("2 THINGS that somebody HAS, as a set,");
        e.empty().due("now(2)", 0);
        e.yard("child 0").due("now(2)", 1);
        e.yard("child 9").due("now(2)", 512);
        e.yard(EIGHT).due("now(2)", 1023 - 3);
        e.yard("child 9; child 9; child 0").due("now(2)", 513);
        e.says("3 GLAD of all together,");
        e.empty().due("now(3)", 0);
        e.yard("nut 9;".repeat(7) + "nut 9").due("now(3)", -160);
        Run glad = e.empty();
        for (int c = 0; c < 8; c++) {
            glad.go("child(5, 0); likes(" + c + ", 0, 20)");
        }
        glad.due("now(3)", 8 * 28);
        e.says("4 1 if it is OVER, else 0,");
        e.empty().due("now(4)", 1);
        e.yard("child 8; child 3").due("now(4)", 1).go("likes(1, 8, 11)").due("now(4)", 0);
        e.says("5 SWAPPED of all together.");
        e.empty().due("now(5)", 0);
        e.yard("child 8; child 3").due("now(5)", 0).go("swap(0, 1)").due("now(5)", 2).go("set(0, 2, 9999)")
            .due("now(5)", 10000);
        e.says("BEYOND.");
        e.range("now(?)", 0, 5);
    }

    private void who() {
        e.passage("4");
        e.says("Who HAS a THING, as a set.");
        e.empty().due("who(0)", 0).due("who(9)", 0);
        e.yard("child 9;".repeat(7) + "child 9").due("who(9)", 255).due("who(0)", 0).go("set(0, 1, 0); set(7, 1, 0)")
            .due("who(9)", 126).due("who(0)", 129);
        e.same("who(3)");
        e.says("BEYOND.");
        e.range("who(?)", 0, 9);
    }

    private void child() {
        e.passage("5");
        e.says("One more that HAS a THING: the number.");
        Run run = e.empty();
        for (int c = 0; c < 8; c++) {
            run.due("child(" + c % 6 + ", " + (c + 2) + ")", c).due("of(" + c + ", 1)", c + 2)
                .due("of(" + c + ", 2)", 0).due("of(" + c + ", 3)", 50);
        }
        StringBuilder one = new StringBuilder("count(0) 7>8, of(7, 0) null>4, of(7, 1) null>9, of(7, 2) null>0, "
            + "of(7, 3) null>50");
        for (int t = 0; t < 10; t++) {
            one.append(", worth(7, " + t + ") null>" + LIKED_AT_FIRST[t]);
        }
        // The tape of the made yard has one more child, for whom there would be no place.
        e.changes("wipe()", "child(4, 9)", one.toString());
        e.says("BEYOND: kind, thing.");
        e.range("child(?, 0)", 0, 5);
        e.range("child(0, ?)", 0, 9);
        e.yard(EIGHT).due("child(6, 0)", Check.BEYOND).due("child(-1, 0)", Check.BEYOND)
            .due("child(0, 10)", Check.BEYOND).due("child(0, -1)", Check.BEYOND);
        e.says("FULL.");
        e.yard(EIGHT).due("child(0, 0)", Check.FULL).due("child(5, 9)", Check.FULL).due("count(0)", 8);
        e.refused("child(5, 9)", "child(0, 0)", Check.FULL);
        e.yard("child 0").go("image()").tellDue("king 8;shy 7;nut 6;cheat 5;new 4;child 3;king 2", 7)
            .due("child(0, 0)", Check.FULL).due("undo()", 1).due("child(0, 0)", 1);
    }

    private void of() {
        e.passage("6");
        e.says("Of one: what 0 KIND, 1 HAS, 2 SWAPPED, 3 TRUST, 4 GLAD, 5 ASKS in this ROUND, 6 LOSES.");
        e.yard("cheat 9 trust 0; new 0 trust 99").go("rounds(1); set(0, 2, 9999); likes(1, 0, 20)")
            .due("of(0, 0)", 4).due("of(0, 1)", 9).due("of(0, 2)", 9999).due("of(0, 3)", 0).due("of(0, 4)", 11)
            .due("of(0, 5)", 7).due("of(0, 6)", 10)
            .due("of(1, 0)", 5).due("of(1, 1)", 0).due("of(1, 2)", 0).due("of(1, 3)", 99).due("of(1, 4)", 21)
            .due("of(1, 5)", 1).due("of(1, 6)", 0).go("rounds(1)").due("of(1, 5)", 2);
        for (int what = 0; what < 7; what++) {
            e.same("of(6, " + what + ")");
        }
        e.says("BEYOND.");
        e.children("of(?, 0)");
        e.range("of(0, ?)", 0, 6);
        e.empty().due("of(0, 7)", Check.BEYOND);
    }

    private void set() {
        e.passage("7");
        e.says("HAS (what 1), SWAPPED (2), TRUST (3) of one becomes v: what it was.");
        e.yard("king 5; new 5").due("set(0, 1, 9)", 5).due("set(0, 1, 0)", 9).due("set(0, 1, 0)", 0).have("0 5")
            .due("who(9)", 0).due("who(0)", 1).due("worth(0, 0)", 3).due("worth(1, 5)", 3).due("worth(1, 9)", 8)
            .due("set(0, 2, 9999)", 0).due("set(0, 2, 0)", 9999).due("set(0, 2, 5)", 0).swapped("5 0")
            .due("set(1, 3, 99)", 50).due("set(1, 3, 0)", 99).due("set(1, 3, 6)", 0).trusts("50 6");
        e.changes("set(5, 1, 0)", "of(5, 1) 9>0");
        e.changes("set(6, 2, 20)", "of(6, 2) 0>20");
        e.changes("set(6, 3, 9)", "of(6, 3) 50>9");
        e.says("BEYOND.");
        for (int what = 1; what < 4; what++) {
            e.children("set(?, " + what + ", 0)");
        }
        e.range("set(6, ?, 0)", 1, 3);
        e.range("set(6, 1, ?)", 0, 9);
        e.range("set(6, 2, ?)", 0, 9999);
        e.range("set(6, 3, ?)", 0, 99);
    }

    private void likes() {
        e.passage("8");
        e.says("How much one LIKES a THING becomes v: what it was.");
        e.yard("child 5; nut 9").due("likes(0, 9, 20)", 8).due("likes(0, 9, 0)", 20).due("likes(0, 9, 3)", 0)
            .due("worth(0, 9)", 3).due("likes(1, 9, 20)", 8).due("likes(1, 9, 20)", 20).due("worth(1, 9)", -20)
            .due("likes(0, 0, 20)", 0).due("likes(1, 0, 1)", 0);
        e.changes("likes(6, 9, 0)", "worth(6, 9) 8>0");
        e.changes("likes(6, 0, 20)", "worth(6, 0) 0>20");
        e.says("BEYOND.");
        e.children("likes(?, 0, 0)");
        e.range("likes(6, ?, 0)", 0, 9);
        e.range("likes(6, 0, ?)", 0, 20);
    }

    private void worth() {
        e.passage("9");
        e.says("What a THING is WORTH to one.");
        e.yard("king 5; child 9; child 9").due("worth(0, 5)", 5).due("worth(0, 9)", 8).due("worth(0, 0)", 0)
            .due("worth(2, 9)", 8).go("turn(2, 3)").due("worth(2, 9)", -20).go("turn(2, 5)").due("worth(2, 9)", 10);
        e.same("worth(6, 9)");
        e.says("BEYOND.");
        e.children("worth(?, 0)");
        e.range("worth(6, ?)", 0, 9);
    }

    private void agrees() {
        e.passage("10");
        e.says("1 if one AGREES to a THING for what it HAS, else 0.");
        // Nobody need have it.
        e.yard("child 4").due("agrees(0, 3)", 1).due("agrees(0, 7)", 0).due("agrees(0, 4)", 0).go("turn(0, 4)")
            .due("agrees(0, 4)", 1).due("agrees(0, 3)", 1).due("agrees(0, 1)", 0).go("likes(0, 1, 9)")
            .due("agrees(0, 1)", 1);
        e.same("agrees(6, 9)");
        e.says("BEYOND.");
        e.children("agrees(?, 0)");
        e.range("agrees(6, ?)", 0, 9);
    }

    private void turn() {
        e.passage("11");
        e.says("One becomes one of another KIND: what it was.");
        e.yard("child 4").due("turn(0, 5)", 0).due("turn(0, 5)", 5).due("turn(0, 0)", 5).due("turn(0, 4)", 0)
            .due("of(0, 0)", 4);
        e.changes("turn(0, 5)", "of(0, 0) 1>5");
        e.changes("turn(3, 0)", "of(3, 0) 4>0");
        e.changes("turn(3, 4)", "");
        e.says("BEYOND.");
        e.children("turn(?, 0)");
        e.range("turn(6, ?)", 0, 5);
    }

    private void as() {
        e.passage("12");
        e.says("One as one of a kind: TRUST.");
        e.yard("cheat 4 trust 99; new 4 trust 0; nut 1").due("as(0, 0)", 99).due("as(0, 1)", 99).due("as(0, 4)", 99)
            .due("as(1, 0)", 0).due("as(1, 2)", 0).due("as(1, 5)", 0).due("as(2, 3)", 50).due("as(2, 0)", 50);
        e.same("as(3, 1)");
        e.says("BEYOND: no such one, kind.");
        e.children("as(?, 0)");
        e.range("as(6, ?)", 0, 5);
        e.yard("child 4").due("as(1, 1)", Check.BEYOND).due("as(0, 6)", Check.BEYOND).due("as(0, 1)", Check.KIND);
        e.says("KIND: it isn't of that kind, nor of one under it.");
        e.yard(EIGHT).due("as(0, 1)", Check.KIND).due("as(0, 2)", Check.KIND).due("as(0, 3)", Check.KIND)
            .due("as(0, 4)", Check.KIND).due("as(0, 5)", Check.KIND).due("as(1, 4)", Check.KIND)
            .due("as(2, 5)", Check.KIND).due("as(4, 2)", Check.KIND).due("as(5, 1)", Check.KIND)
            .due("as(3, 1)", Check.KIND).due("as(4, 5)", Check.KIND).due("as(5, 4)", Check.KIND);
        e.refused("as(0, 4)", Check.KIND);
    }

    private void swap() {
        e.passage("13");
        e.says("Two SWAP at once, whether they AGREE or not: GLAD of the first then.");
        e.yard("shy 3; shy 8 trust 0; shy 8; king 1").go("teacher(1)").due("swap(0, 1)", 1).have("8 3 8 1")
            .due("swap(0, 2)", 1).have("8 3 8 1").swapped("2 1 1 0").due("swap(3, 0)", 1).have("1 3 8 8")
            .due("swap(0, 3)", 1).have("8 3 8 1").due("swap(3, 1)", 13).have("8 1 8 3").due("swap(0, 3)", 10);
        e.changes("swap(0, 5)", "of(0, 1) 4>9, of(0, 2) 7>8, of(0, 3) 50>49, of(5, 1) 9>4, of(5, 2) 0>1");
        e.says("BEYOND: also one and the same.");
        e.children("swap(?, 3)");
        e.children("swap(3, ?)");
        for (int c = 0; c < 7; c++) {
            e.refused("swap(" + c + ", " + c + ")", Check.BEYOND);
        }
        e.empty().due("swap(0, 0)", Check.BEYOND).due("swap(0, 1)", Check.BEYOND).go("child(0, 0)")
            .due("swap(0, 0)", Check.BEYOND).due("swap(0, 1)", Check.BEYOND).due("swap(1, 0)", Check.BEYOND);
    }

    private void mates() {
        e.passage("14");
        e.says("With whom one would SWAP (both AGREE, what they HAVE isn't the same; TRUST doesn't count), as a set.");
        e.yard("child 0").due("mates(0)", 0);
        e.yard("child 0;" + "child 3 likes 11;".repeat(4) + "child 3 likes 10; child 3 likes 11; child 3 likes 9")
            .due("mates(0)", 2 + 4 + 8 + 16 + 64).due("mates(1)", 1).due("mates(5)", 0);
        e.yard("child 3 trust 0; child 0 trust 0").go("likes(0, 0, 10)").due("mates(0)", 0).due("mates(1)", 0)
            .go("likes(0, 0, 11)").due("mates(0)", 2).due("mates(1)", 1);
        e.yard("cheat 4; cheat 4").due("mates(0)", 0).go("set(1, 1, 9); likes(0, 9, 6); likes(1, 4, 8)")
            .due("mates(0)", 2).due("mates(1)", 1);
        e.same("mates(2)");
        e.says("BEYOND.");
        e.children("mates(?)");
    }

    private void ring() {
        e.passage("15");
        e.says("A ring of three: a, b, c (all unlike) each of whom AGREES to what the next one HAS (c to what a HAS),");
        e.yard("child 0 likes 0 1 0; child 1 likes 0 0 1; child 2 likes 1 0 0").due("ring()", 12)
            .go("likes(2, 0, 0)").due("ring()", Check.NONE).go("likes(2, 0, 1); likes(1, 2, 0)")
            .due("ring()", Check.NONE).go("likes(1, 2, 1); likes(0, 1, 0)").due("ring()", Check.NONE)
            .go("likes(0, 1, 1)").due("ring()", 12).go("set(0, 3, 0); set(1, 3, 0); set(2, 3, 0)").due("ring()", 12);
        e.yard("child 0 likes 0 0 1; child 1 likes 1 0 0; child 2 likes 0 1 0").due("ring()", 21);
        // Two who would swap with each other make no ring of three.
        e.yard("child 0 likes 0 1; child 1 likes 1 0").due("mates(0)", 2).due("ring()", Check.NONE);
        e.yard("shy 0 likes 0 1 0; shy 1 likes 0 0 1; shy 2 likes 1 0 0").due("ring()", 12).go("teacher(1)")
            .due("ring()", Check.NONE);
        e.same("ring()");
        e.says("and what no two of them HAVE is the same:");
        e.yard("cheat 1; cheat 1; cheat 1").due("ring()", Check.NONE);
        String alike = "likes 0 5 5 5";
        e.yard("cheat 1 " + alike + "; cheat 1 " + alike + "; cheat 2 " + alike).go("likes(2, 1, 8); likes(0, 2, 8)")
            .go("likes(1, 2, 8)").due("agrees(0, 1)", 1).due("agrees(1, 2)", 1).due("agrees(2, 1)", 1)
            .due("ring()", Check.NONE).go("set(1, 1, 3); likes(1, 3, 5); likes(2, 3, 5)").due("ring()", 12);
        e.says("100 times a, 10 times b, and c;");
        Run last = e.yard("child 3;".repeat(4) + "child 3").tellDue(
            "child 0 likes 0 1 0; child 1 likes 0 0 1; child 2 likes 1 0 0", 3);
        for (int c = 5; c < 8; c++) {
            last.go("likes(" + c + ", 3, 0)");
        }
        last.due("ring()", 567).go("likes(5, 1, 0); likes(5, 2, 1); likes(6, 2, 0); likes(6, 0, 1); likes(7, 0, 0)")
            .due("ring()", Check.NONE).go("likes(7, 1, 1)").due("ring()", 576);
        e.says("of several the least.");
        e.yard("child 0 likes 0 1 1; child 1 likes 1 0 1; child 2 likes 1 1 0").due("ring()", 12)
            .go("likes(1, 2, 0)").due("ring()", 21);
        // By a, by b, by c: each wants all that the others have.
        Run many = e.empty();
        for (int c = 0; c < 8; c++) {
            many.go("child(0, " + c + ")");
            for (int t = 0; t < 8; t++) {
                many.go("likes(" + c + ", " + t + ", " + (t == c ? 0 : 1) + ")");
            }
        }
        many.due("ring()", 12).go("likes(0, 1, 0)").due("ring()", 21).go("likes(2, 1, 0)").due("ring()", 23)
            .go("likes(3, 0, 0)").due("ring()", 24).go("likes(0, 2, 0)").due("ring()", 31);
        Run later = e.empty();
        for (int c = 0; c < 8; c++) {
            later.go("child(0, " + c + ")");
            for (int t = 0; t < 8; t++) {
                later.go("likes(" + c + ", " + t + ", " + (t == c || c < 3 ? 0 : 1) + ")");
            }
        }
        later.due("ring()", 345).go("likes(3, 3, 1)").due("ring()", 456).go("likes(4, 4, 1)").due("ring()", 567)
            .go("likes(5, 5, 1)").due("ring()", Check.NONE);
        e.says("NONE.");
        e.empty().due("ring()", Check.NONE).go("child(4, 1)").due("ring()", Check.NONE).go("child(4, 2)")
            .due("ring()", Check.NONE);
        e.refused("set(0, 1, 3); set(2, 1, 3); set(5, 1, 3); set(6, 1, 3)", "ring()", Check.NONE);
    }
}
