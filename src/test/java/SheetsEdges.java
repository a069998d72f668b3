/** Promises 30 to 35: sheets. */
final class SheetsEdges {
    private final Edges e;

    SheetsEdges(Edges e) {
        this.e = e;
    }

    void ask() {
        sheet();
        write();
        copy();
        copyFindings();
        lays();
        book();
        read();
    }

    private void sheet() {
        e.passage("30");
        e.says("A sheet has n numbers, all 0, of 8, 16 or 64 bits;");
        for (int bits : new int[] {8, 16, 64}) {
            Run run = e.empty().due("sheet(1, " + bits + ", 0)", 0).due("write(1, 0, 7)", Check.BEYOND)
                .due("sheet(1, " + bits + ", 40)", 40);
            for (int i = 0; i < 40; i++) {
                run.due("write(1, " + i + ", 7)", 0);
            }
            // Anew: shorter, and as long again.
            run.due("write(1, 40, 7)", Check.BEYOND).due("sheet(1, " + bits + ", 1)", 1).due("write(1, 0, 7)", 0)
                .due("write(1, 1, 7)", Check.BEYOND).due("sheet(1, " + bits + ", 40)", 40);
            for (int i = 0; i < 40; i++) {
                run.due("write(1, " + i + ", 7)", 0);
            }
        }
        e.changes("sheet(2, 64, 2)", "write(2, 1, 0) 5000000000>0, write(2, 2, 0) 0>-1000000001, "
            + "write(2, 3, 0) 0>-1000000001");
        e.says("bits 0: it is MISSING:");
        e.empty().go("sheet(0, 8, 3); sheet(1, 8, 3)").due("sheet(0, 0, 0)", 0).due("write(0, 0, 0)", Check.MISSING)
            .due("write(1, 0, 0)", 0).due("sheet(0, 0, 0)", 0).due("sheet(0, 8, 3)", 3).due("write(0, 0, 0)", 0);
        e.says("n (0 if it is MISSING).");
        e.empty().due("sheet(0, 8, 17)", 17).due("sheet(0, 0, 17)", 0).due("sheet(0, 0, 40)", 0)
            .due("sheet(0, 64, 40)", 40);
        e.says("BEYOND: no such sheet, other bits.");
        for (int bits : new int[] {0, 8, 16, 64}) {
            e.range("sheet(?, " + bits + ", 2)", 0, 3);
            e.range("sheet(?, " + bits + ", 40)", 0, 3);
        }
        for (int bits : new int[] {-1, 1, 7, 9, 15, 17, 24, 31, 32, 33, 63, 65, 128, 256, -8, -64, 1 << 16 | 8,
            Integer.MIN_VALUE, Integer.MAX_VALUE}) {
            e.refused("sheet(0, " + bits + ", 1)", Check.BEYOND);
            e.refused("sheet(0, " + bits + ", -1)", Check.BEYOND);
        }
        e.refused("sheet(4, 8, -1)", Check.BEYOND);
        e.refused("sheet(-1, 0, -1)", Check.BEYOND);
        e.says("SIZE: n is below 0 (also with bits 0).");
        for (int bits : new int[] {0, 8, 16, 64}) {
            e.refused("sheet(0, " + bits + ", -1)", Check.SIZE);
            e.refused("sheet(0, " + bits + ", -2147483648)", Check.SIZE);
            e.refused("sheet(3, " + bits + ", -1)", Check.SIZE);
        }
        e.says("BEYOND: n is above 40 (also with bits 0).");
        for (int bits : new int[] {0, 8, 16, 64}) {
            e.refused("sheet(0, " + bits + ", 41)", Check.BEYOND);
            e.refused("sheet(0, " + bits + ", 2147483647)", Check.BEYOND);
            e.refused("sheet(3, " + bits + ", 41)", Check.BEYOND);
        }
    }

    /** What a number becomes in a sheet of so many bits. */
    private void kept(int bits, long v, long want) {
        e.empty().go("sheet(0, " + bits + ", 1)").due("write(0, 0, " + v + ")", 0).due("write(0, 0, 1)", want);
    }

    private void write() {
        e.passage("31");
        e.says("Number i of a sheet becomes v (its lowest bits):");
        for (int bits : new int[] {8, 16, 64}) {
            kept(bits, 127, 127);
            kept(bits, -128, -128);
            kept(bits, -1, -1);
        }
        kept(8, 128, -128);
        kept(8, 255, -1);
        kept(8, 256, 0);
        kept(8, 257, 1);
        kept(8, -129, 127);
        kept(8, -256, 0);
        kept(8, Long.MAX_VALUE, -1);
        kept(8, Long.MIN_VALUE, 0);
        kept(16, 128, 128);
        kept(16, 256, 256);
        kept(16, 32767, 32767);
        kept(16, 32768, -32768);
        kept(16, 65535, -1);
        kept(16, 65536, 0);
        kept(16, -32769, 32767);
        kept(16, Long.MAX_VALUE, -1);
        kept(16, Long.MIN_VALUE, 0);
        kept(64, 1L << 32, 1L << 32);
        kept(64, Long.MAX_VALUE, Long.MAX_VALUE);
        kept(64, Long.MIN_VALUE, Long.MIN_VALUE);
        e.changes("write(1, 1, 65537)", "write(1, 1, 0) 0>1");
        e.says("what it was.");
        e.empty().go("sheet(0, 64, 40)").due("write(0, 0, 5)", 0).due("write(0, 39, 6)", 0).due("write(0, 0, 7)", 5)
            .due("write(0, 39, 8)", 6).due("write(0, 0, -1000000001)", 7).due("write(0, 0, 0)", -1000000001)
            .due("status(-1)", 0);
        e.says("BEYOND: no such sheet.");
        e.range("sheet(3, 8, 1)", "write(?, 0, 1)", 0, 3);
        e.empty().due("write(4, -1, 0)", Check.BEYOND).due("write(-1, 0, 0)", Check.BEYOND).due("status(5)", 0);
        e.says("MISSING.");
        e.refused("write(3, 0, 1)", Check.MISSING);
        e.refused("write(3, -1, 1)", Check.MISSING);
        e.refused("write(3, 40, 1)", Check.MISSING);
        e.refused("sheet(0, 0, 5)", "write(0, 0, 1)", Check.MISSING);
        e.says("BEYOND: no such number.");
        e.range("write(0, ?, 1)", 0, 4);
        e.range("write(1, ?, 1)", 0, 2);
        e.range("write(2, ?, 1)", 0, 3);
        e.refused("sheet(0, 8, 0)", "write(0, 0, 1)", Check.BEYOND);
        e.empty().go("sheet(0, 8, 40)").due("write(0, 40, 1)", Check.BEYOND).due("write(0, 39, 1)", 0);
    }

    /** Sheets of 8 bits: 0 with 1 2 3 4 5, 1 with 6 7 8. */
    private Run twoSheets() {
        Run run = e.empty().go("sheet(0, 8, 5); sheet(1, 8, 3)");
        for (int i = 0; i < 5; i++) {
            run.go("write(0, " + i + ", " + (i + 1) + ")");
        }
        return run.go("write(1, 0, 6); write(1, 1, 7); write(1, 2, 8)");
    }

    private void copy() {
        e.passage("32");
        e.says("n numbers of a sheet from one on come to another one from one on");
        twoSheets().due("copy(0, 2, 1, 0, 3)", 3).numbers(1, "3 4 5").numbers(0, "1 2 3 4 5");
        twoSheets().due("copy(0, 0, 1, 2, 1)", 1).numbers(1, "6 7 1").numbers(0, "1 2 3 4 5");
        twoSheets().due("copy(1, 0, 0, 2, 3)", 3).numbers(0, "1 2 6 7 8").numbers(1, "6 7 8");
        twoSheets().due("copy(1, 2, 0, 4, 1)", 1).numbers(0, "1 2 3 4 8");
        for (int bits : new int[] {16, 64}) {
            e.empty().go("sheet(2, " + bits + ", 40); sheet(3, " + bits + ", 40)").go("write(2, 39, -32768)")
                .due("copy(2, 0, 3, 0, 40)", 40).due("write(3, 39, 0)", -32768).due("write(3, 38, 0)", 0);
        }
        e.empty().go("sheet(2, 64, 1); sheet(3, 64, 1); write(2, 0, " + Long.MIN_VALUE + ")")
            .due("copy(2, 0, 3, 0, 1)", 1).due("write(3, 0, 0)", Long.MIN_VALUE);
        e.says("(as they all were):");
        twoSheets().due("copy(0, 0, 0, 1, 4)", 4).numbers(0, "1 1 2 3 4");
        twoSheets().due("copy(0, 1, 0, 0, 4)", 4).numbers(0, "2 3 4 5 5");
        twoSheets().due("copy(0, 0, 0, 2, 3)", 3).numbers(0, "1 2 1 2 3");
        twoSheets().due("copy(0, 0, 0, 0, 5)", 5).numbers(0, "1 2 3 4 5");
        e.says("n.");
        twoSheets().due("copy(0, 0, 1, 0, 0)", 0).due("copy(0, 5, 1, 3, 0)", 0).due("copy(0, 5, 0, 5, 0)", 0)
            .numbers(0, "1 2 3 4 5").numbers(1, "6 7 8").due("copy(0, 4, 1, 2, 1)", 1).due("status(-1)", 0);
        e.empty().go("sheet(0, 8, 0); sheet(1, 8, 0)").due("copy(0, 0, 1, 0, 0)", 0)
            .due("copy(0, 0, 1, 0, 1)", Check.BEYOND);
    }

    private void copyFindings() {
        e.says("BEYOND: no such sheet (either).");
        e.range("sheet(1, 8, 3); sheet(2, 8, 3); sheet(3, 8, 3)", "copy(?, 0, 1, 0, 2)", 0, 3);
        e.range("sheet(1, 8, 3); sheet(2, 8, 3); sheet(3, 8, 3)", "copy(1, 0, ?, 0, 2)", 0, 3);
        e.refused("copy(4, 0, 3, 0, 0)", Check.BEYOND);
        e.refused("copy(3, 0, -1, 0, 0)", Check.BEYOND);
        e.refused("copy(4, 0, 4, 0, 0)", Check.BEYOND);
        e.says("MISSING: one is.");
        e.refused("copy(3, 0, 0, 0, 1)", Check.MISSING);
        e.refused("copy(0, 0, 3, 0, 1)", Check.MISSING);
        e.refused("copy(3, 0, 3, 0, 0)", Check.MISSING);
        e.refused("copy(3, -1, 0, -1, -1)", Check.MISSING);
        e.refused("copy(0, 99, 3, 99, 99)", Check.MISSING);
        e.says("KIND: they are not of as many bits.");
        e.refused("copy(0, 0, 1, 0, 1)", Check.KIND);
        e.refused("copy(1, 0, 0, 0, 1)", Check.KIND);
        e.refused("copy(1, 0, 2, 0, 0)", Check.KIND);
        e.refused("copy(0, -1, 2, -1, -1)", Check.KIND);
        e.refused("copy(2, 99, 0, 99, 99)", Check.KIND);
        e.says("BEYOND: one has not so many, or from, to or n is below 0.");
        e.range("copy(0, ?, 0, 0, 2)", 0, 3);
        e.range("copy(0, 0, 0, ?, 2)", 0, 3);
        e.range("copy(0, 0, 0, 0, ?)", 0, 5);
        e.range("copy(0, ?, 0, 0, 0)", 0, 5);
        e.range("copy(0, 0, 0, ?, 0)", 0, 5);
        // One of the sheets is shorter.
        e.range("sheet(3, 8, 3)", "copy(0, 1, 3, 0, ?)", 0, 3);
        e.range("sheet(3, 8, 3)", "copy(3, 1, 0, 0, ?)", 0, 2);
        // Sums that wrap around.
        e.refused("copy(0, 2147483647, 0, 0, 1)", Check.BEYOND);
        e.refused("copy(0, 1, 0, 0, 2147483647)", Check.BEYOND);
        e.refused("copy(0, 0, 0, 2147483647, 2147483647)", Check.BEYOND);
        e.refused("copy(0, -2147483648, 0, 0, -2147483648)", Check.BEYOND);
        e.refused("copy(0, 3, 0, 3, -1)", Check.BEYOND);
        e.refused("copy(0, -1, 0, 0, 0)", Check.BEYOND);
    }

    private void lays() {
        e.passage("33");
        e.says("Numbers of a sheet become how much one LIKES THINGS 0, 1, ..");
        e.yard("child 0; child 0").go("sheet(0, 8, 2); write(0, 0, 20); write(0, 1, 1)").due("lays(0, 1)", 2)
            .due("worth(1, 0)", 20).due("worth(1, 1)", 1).due("worth(1, 2)", 3).due("worth(0, 0)", 0)
            .due("worth(0, 1)", 7).due("write(0, 0, 0)", 20);
        // Thing 4 is liked by 6 before and behind it.
        e.changes("lays(0, 6)", "worth(6, 0) 0>4, worth(6, 1) 7>0, worth(6, 2) 3>0, worth(6, 3) 10>0");
        e.says("(those that aren't 0 to 20, or stand for none, are left out):");
        leftOut();
        e.says("how many came.");
        e.yard("child 0").go("sheet(0, 8, 0); sheet(1, 8, 9); sheet(2, 8, 10); sheet(3, 8, 11)").due("lays(0, 0)", 0)
            .due("lays(1, 0)", 9).due("lays(2, 0)", 10).due("lays(3, 0)", 10).go("sheet(3, 8, 40)")
            .due("lays(3, 0)", 10).go("write(3, 39, 21); write(3, 10, -1)").due("lays(3, 0)", 10)
            .go("write(3, 9, 21)").due("lays(3, 0)", 9).go("write(3, 0, -1)").due("lays(3, 0)", 8);
        e.says("BEYOND: no such sheet.");
        e.range("sheet(3, 8, 1)", "lays(?, 0)", 0, 3);
        e.refused("lays(4, 9)", Check.BEYOND);
        e.says("MISSING.");
        e.refused("lays(3, 0)", Check.MISSING);
        e.refused("lays(3, 9)", Check.MISSING);
        e.says("BEYOND: child.");
        e.range("lays(0, ?)", 0, 6);
        e.empty().go("sheet(0, 8, 0)").due("lays(0, 0)", Check.BEYOND);
    }

    private void leftOut() {
        int[] liked = {0, 7, 3, 10, 6, 2, 9, 5, 1, 8};
        for (int bits : new int[] {8, 16, 64}) {
            for (int v : new int[] {-1, 21, 127, -128, -20}) {
                e.yard("child 0").go("sheet(0, " + bits + ", 10); write(0, 3, " + v + ")").due("lays(0, 0)", 9)
                    .due("worth(0, 3)", 10).due("worth(0, 9)", 0);
            }
        }
        e.yard("child 0").go("sheet(0, 64, 3); write(0, 1, 4294967301); write(0, 2, " + (Long.MIN_VALUE + 5) + ")")
            .due("lays(0, 0)", 1).due("worth(0, 1)", 7).due("worth(0, 2)", 3);
        e.yard("child 0").go("sheet(0, 16, 3); write(0, 1, 261); write(0, 2, 65541)").due("lays(0, 0)", 2)
            .due("worth(0, 1)", 7).due("worth(0, 2)", 5);
        // Numbers 10 to 39 stand for no thing: they come to nobody, also not to the next child.
        Run run = e.yard("child 0; child 0").go("sheet(0, 8, 40)");
        for (int i = 10; i < 40; i++) {
            run.go("write(0, " + i + ", 20)");
        }
        run.due("lays(0, 0)", 10);
        for (int t = 0; t < 10; t++) {
            run.due("worth(0, " + t + ")", 0).due("worth(1, " + t + ")", liked[t]);
        }
    }

    private void book() {
        // They have 1 2 3, 3 2 1, 3 1 2, 2 3 1, and at last 1 3 2.
        String cheats = "cheat 1 likes 0 5 5 5; cheat 2 likes 0 5 5 5; cheat 3 likes 0 5 5 5";
        e.passage("34");
        e.says("A book: what one HAS ON 0, 1, 2, .. ROUNDS comes to a sheet, as many as it has numbers: how many.");
        e.yard(cheats).go("sheet(0, 8, 6); sheet(1, 16, 1); sheet(2, 64, 0); sheet(3, 64, 40)").due("book(0, 0)", 6)
            .numbers(0, "1 3 3 2 1 1").due("book(0, 2)", 6).numbers(0, "3 1 2 1 2 2").due("book(1, 1)", 1)
            .numbers(1, "2").due("book(2, 1)", 0).due("write(2, 0, 0)", Check.BEYOND).go("write(3, 39, -1)")
            .due("book(3, 1)", 40).due("write(3, 39, 0)", 3).due("write(3, 0, 0)", 2).due("now(0)", 0)
            .have("1 2 3").swapped("0 0 0").trusts("50 50 50");
        e.changes("set(0, 1, 3); set(2, 1, 3); set(3, 1, 3); set(5, 1, 3); set(6, 1, 3)", "book(1, 5)",
            "write(1, 0, 0) 0>3, write(1, 1, 0) 0>3, write(1, 2, 0) 21>3");
        e.says("BEYOND: no such sheet.");
        e.range("sheet(3, 8, 1)", "book(?, 0)", 0, 3);
        e.refused("book(-1, 9)", Check.BEYOND);
        e.says("MISSING.");
        e.refused("book(3, 0)", Check.MISSING);
        e.refused("book(3, 9)", Check.MISSING);
        e.says("BEYOND: child.");
        e.range("book(0, ?)", 0, 6);
        e.empty().go("sheet(0, 8, 0)").due("book(0, 0)", Check.BEYOND);
    }

    private void read() {
        e.passage("35");
        e.says("THE READER: numbers of a sheet are what one HAS ON 0, 1, 2, .. ROUNDS: how many pairs of a KIND of it "
            + "and a KIND of another one make it just so.");
        // 0 gains by a swap enough for all kinds; 1 gains 1, so that KING and NEW refuse. SHY with SHY asks nobody.
        Run run = e.inRoundOne("child 0; child 3 likes 11").go("sheet(0, 8, 0); sheet(1, 64, 1); sheet(2, 16, 2)");
        run.due("read(0, 0, 1)", 36).due("read(0, 1, 0)", 36).due("read(1, 0, 1)", 36).due("read(1, 1, 0)", 0)
            .go("write(1, 0, 3)").due("read(1, 0, 1)", 0).due("read(1, 1, 0)", 36)
            .go("write(2, 0, 0); write(2, 1, 3)").due("read(2, 0, 1)", 23).go("write(2, 1, 0)")
            .due("read(2, 0, 1)", 13).go("write(2, 1, 1)").due("read(2, 0, 1)", 0).go("write(2, 0, 3); write(2, 1, 0)")
            .due("read(2, 1, 0)", 23).due("of(0, 0)", 0).due("of(1, 0)", 0).due("now(0)", 1).have("0 3");
        // Numbers that no thing has, also not by their lowest bits.
        run.go("write(1, 0, 4294967296)").due("read(1, 0, 1)", 0).go("write(1, 0, -1)").due("read(1, 0, 1)", 0)
            .go("write(1, 0, 10)").due("read(1, 0, 1)", 0).go("write(1, 0, 256)").due("read(1, 0, 1)", 0);
        // To the last of forty.
        run.go("sheet(3, 8, 40)").due("book(3, 0)", 40).due("read(3, 0, 1)", 23).go("write(3, 39, 0)")
            .due("read(3, 0, 1)", 0);
        e.same("read(0, 3, 4)");
        e.says("BEYOND: no such sheet.");
        e.range("sheet(3, 8, 1)", "read(?, 0, 1)", 0, 3);
        e.refused("read(4, 0, 0)", Check.BEYOND);
        e.says("MISSING.");
        e.refused("read(3, 0, 1)", Check.MISSING);
        e.refused("read(3, 0, 0)", Check.MISSING);
        e.refused("read(3, 9, -1)", Check.MISSING);
        e.says("BEYOND: child, other (also one and the same).");
        e.range("read(0, ?, 3)", 0, 6);
        e.range("read(0, 3, ?)", 0, 6);
        for (int c = 0; c < 7; c++) {
            e.refused("read(0, " + c + ", " + c + ")", Check.BEYOND);
        }
        e.empty().go("sheet(0, 8, 0)").due("read(0, 0, 1)", Check.BEYOND).go("child(0, 0)")
            .due("read(0, 0, 0)", Check.BEYOND).due("read(0, 0, 1)", Check.BEYOND).due("read(0, 1, 0)", Check.BEYOND);
    }
}
