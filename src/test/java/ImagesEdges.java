/** Promises 36 to 40: images, counts and status. */
final class ImagesEdges {
    private final Edges e;

    ImagesEdges(Edges e) {
        this.e = e;
    }

    void ask() {
        image();
        undo();
        tear();
        count();
        status();
    }

    private void image() {
        e.passage("36");
        e.says("All that section 1 tells (THE TAPE not) is kept: 1.");
        e.yard("cheat 3 trust 9 likes 4; king 8; teacher").go("rounds(7); set(1, 2, 9999); feed(0, 3)")
            .due("image()", 1).go("swap(0, 1); turn(0, 5); turn(1, 3); likes(0, 0, 5); likes(1, 9, 20)")
            .go("child(0, 0); teacher(0); rounds(60); feed(0, 2)").due("undo()", 2).due("now(0)", 7).due("now(1)", 1)
            .due("of(0, 0)", 4).due("of(1, 0)", 1).have("3 8").swapped("0 9999").trusts("9 50")
            .due("likes(0, 0, 4)", 4).due("likes(1, 9, 8)", 8).due("who(0)", 0).due("worth(1, 8)", 4)
            .due("worth(1, 0)", 0).due("count(1)", 5);
        // Sheets are told in section 3: they stay as they are.
        e.empty().go("sheet(0, 8, 1); sheet(1, 8, 1); image(); write(0, 0, 5); sheet(1, 0, 0); sheet(2, 64, 2)")
            .due("undo()", 0).due("write(0, 0, 6)", 5).due("write(1, 0, 0)", Check.MISSING).due("write(2, 1, 0)", 0);
        // An empty yard can be kept, too, and a full one.
        e.empty().due("image()", 1).go("child(0, 0)").due("undo()", 0).due("count(0)", 0);
        e.yard("child 3" + ";child 3".repeat(7)).due("image()", 1).go("set(7, 1, 9)").due("undo()", 8)
            .due("of(7, 1)", 3);
    }

    private void undo() {
        e.passage("37");
        e.says("It becomes what was kept latest (which stays):");
        e.yard("child 1").go("image(); child(0, 2); image(); child(0, 3)").due("undo()", 2).have("1 2")
            .go("child(0, 4); set(0, 1, 9); likes(0, 1, 20); swap(0, 1)").due("undo()", 2).have("1 2")
            .due("worth(0, 1)", 7).swapped("0 0").due("undo()", 2).tellDue("teacher; swap 0 1", 2).due("undo()", 2)
            .have("1 2").due("now(1)", 0).go("rounds(60)").due("undo()", 2).due("now(0)", 0);
        // Questions ask what would be, and neither touch what is kept nor what is.
        e.yard("child 0; child 3 likes 20").go("image(); glad(100); first(0, 40); bring(0, 40); kind(0, 40)")
            .go("trust(0, 40, 40); away(40); winner(100); gets(0, 9); over()").have("0 3").due("undo()", 2).have("0 3");
        e.says("how many CHILDREN.");
        e.empty().go("image(); child(0, 0)").due("undo()", 0).go("child(0, 0); image()").due("undo()", 1);
        e.yard("child 3" + ";child 3".repeat(7)).go("image()").due("undo()", 8).due("child(0, 0)", Check.FULL);
        e.says("NONE: nothing is kept.");
        e.empty().due("undo()", Check.NONE).go("child(0, 0)").due("undo()", Check.NONE).due("count(0)", 1)
            .go("image(); tear()").due("undo()", Check.NONE).due("status(3)", 3);
        e.refused("tear()", "undo()", Check.NONE);
    }

    private void tear() {
        e.passage("38");
        e.says("Nothing is kept: 1 if something was, else 0.");
        e.empty().due("tear()", 0).due("status(-1)", 0).go("image()").due("tear()", 1).due("tear()", 0)
            .go("image(); image(); undo()").due("tear()", 1).due("tear()", 0).due("undo()", Check.NONE)
            .go("child(0, 5); image()").due("undo()", 1).have("5");
        e.yard("child 4").go("image(); child(0, 3)").due("tear()", 1).due("count(0)", 2).have("4 3");
    }

    private void count() {
        e.passage("39");
        e.says("0 CHILDREN,");
        e.empty().due("count(0)", 0).go("child(0, 0)").due("count(0)", 1);
        e.yard("child 3" + ";child 3".repeat(7)).due("count(0)", 8);
        e.same("count(0)");
        e.says("1 bytes of THE TAPE,");
        e.empty().due("count(1)", 0).go("feed(0, 1)").due("count(1)", 1)
            .go("feed(0, 3); " + "feed(0, 4); ".repeat(29) + "count(0)").due("count(1)", 120).go("feed(0, 1)")
            .due("count(1)", 120).go("yard()").due("count(1)", 0);
        e.says("2 TRUST of all together,");
        e.empty().due("count(2)", 0);
        Run run = e.yard("child 3" + ";child 3".repeat(7)).due("count(2)", 400);
        for (int c = 0; c < 8; c++) {
            run.go("set(" + c + ", 3, 99)");
        }
        run.due("count(2)", 8 * 99).go("set(7, 3, 0)").due("count(2)", 7 * 99).go("turn(0, 4); swap(0, 1)")
            .due("count(2)", 7 * 99 - 10);
        e.says("3 THINGS that nobody HAS.");
        e.empty().due("count(3)", 10).go("child(0, 9)").due("count(3)", 9).go("child(0, 9)").due("count(3)", 9)
            .go("child(0, 0)").due("count(3)", 8).go("set(1, 1, 5)").due("count(3)", 7);
        e.yard("child 0;child 1;child 2;child 3;child 4;child 5;child 6;child 7").due("count(3)", 2);
        e.says("BEYOND: another what.");
        e.range("count(?)", 0, 3);
    }

    private void status() {
        e.passage("40");
        e.says("How many acts answered a finding ever (undo() takes none back):");
        e.empty().due("status(-1)", 0).go("image(); ring(); ring(); who(10)").due("undo()", 0).due("status(-1)", 3)
            .due("status(3)", 2).due("status(0)", 1).go("tear()").due("status(-1)", 3);
        // A fault in a text and a number in a sheet are no findings, whatever they are.
        e.empty().due("yard()", -1).go("sheet(0, 64, 1); write(0, 0, -1000000001)").due("write(0, 0, 0)", -1000000001)
            .due("status(-1)", 0);
        Run many = e.empty();
        for (int i = 1; i <= 250; i++) {
            many.go("undo()").due("status(3)", i);
        }
        e.same("status(3)");
        e.says("which -1: all,");
        e.empty().go("ring(); who(10); write(0, 0, 0); sheet(0, 8, -1)").due("status(-1)", 4).due("status(-1)", 4);
        e.says("0 to 6: BEYOND to SIZE.");
        String[] acts = {"who(10)", "child(0, 0)", "as(0, 1)", "ring()", "", "write(0, 0, 0)", "sheet(0, 8, -1)"};
        for (int which = 0; which < 7; which++) {
            if (which != 4) {
                Run run = e.yard("child 3" + ";child 3".repeat(7)).go(acts[which]);
                for (int other = 0; other < 7; other++) {
                    run.due("status(" + other + ")", other == which ? 1 : 0);
                }
            }
        }
        Run late = e.empty();
        for (int i = 0; i < 1666; i++) {
            late.go("rounds(60)");
        }
        late.go("rounds(60)").due("status(4)", 1).due("status(-1)", 1);
        e.says("BEYOND (counted from then on): another one.");
        e.range("status(?)", -1, 6);
        e.empty().due("status(7)", Check.BEYOND).due("status(0)", 1).due("status(-1)", 1)
            .due("status(-2)", Check.BEYOND).due("status(0)", 2).due("status(-1)", 2).due("status(3)", 0);
    }
}
