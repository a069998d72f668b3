/** Promises 30 to 35: sheets. */
public final class SheetsTest {
    private static final Check CHECK = new Check();

    public static void main(String[] args) {
        sheet();
        write();
        copy();
        copyFindings();
        lays();
        book();
        read();
        CHECK.end();
    }

    private static void due(String call, long got, long want) {
        CHECK.due(call, got, want);
    }

    /** Numbers of a sheet, read by writing others and writing them back. */
    private static String numbers(BreakSwaps x, int s, int n) {
        StringBuilder b = new StringBuilder();
        for (int i = 0; i < n; i++) {
            long v = x.write(s, i, 0);
            x.write(s, i, v);
            b.append(i == 0 ? "" : " ").append(v);
        }
        return b.toString();
    }

    private static void has(String what, BreakSwaps x, int s, String want) {
        String got = numbers(x, s, want.split(" ").length);
        CHECK.holds(what + ": " + got + ", due is " + want, got.equals(want));
    }

    private static void put(BreakSwaps x, int s, long... numbers) {
        for (int i = 0; i < numbers.length; i++) {
            x.write(s, i, numbers[i]);
        }
    }

    private static void sheet() {
        BreakSwaps x = new BreakSwaps();
        due("30: 40 of 8", x.sheet(0, 8, 40), 40);
        due("30: 0 of 16", x.sheet(1, 16, 0), 0);
        due("30: 1 of 64", x.sheet(3, 64, 1), 1);
        due("30: the last of 40", x.write(0, 39, 7), 0);
        due("30: none of 0", x.write(1, 0, 7), Check.BEYOND);
        due("30: the only one", x.write(3, 0, 7), 0);
        due("30: another is missing", x.write(2, 0, 7), Check.MISSING);
        due("30: anew", x.sheet(0, 8, 40), 40);
        due("30: all 0", x.write(0, 39, 7), 0);
        x.write(0, 0, 7);
        x.sheet(0, 8, 3);
        due("30: the first, too", x.write(0, 0, 7), 0);
        x.sheet(0, 8, 40);
        due("30: still all 0", x.write(0, 39, 7), 0);
        due("30: missing", x.sheet(0, 0, 12), 0);
        due("30: it is missing", x.write(0, 0, 0), Check.MISSING);
        due("30: missing again", x.sheet(0, 0, 40), 0);
        due("30: sheet 4", x.sheet(4, 8, 1), Check.BEYOND);
        due("30: sheet -1", x.sheet(-1, 8, 1), Check.BEYOND);
        int[] others = {-8, 1, 7, 9, 15, 17, 32, 63, 65, 128};
        for (int bits : others) {
            due("30: bits " + bits, x.sheet(0, bits, 1), Check.BEYOND);
        }
        due("30: sheet 4, n below 0", x.sheet(4, 8, -1), Check.BEYOND);
        due("30: other bits, n below 0", x.sheet(0, 32, -1), Check.BEYOND);
        due("30: n below 0", x.sheet(3, 8, -1), Check.SIZE);
        due("30: n far below 0", x.sheet(3, 8, Integer.MIN_VALUE), Check.SIZE);
        due("30: n below 0 with bits 0", x.sheet(3, 0, -1), Check.SIZE);
        due("30: n 41", x.sheet(3, 8, 41), Check.BEYOND);
        due("30: n 41 with bits 0", x.sheet(3, 0, 41), Check.BEYOND);
        due("30: nothing changed", x.write(3, 0, 0), 7);
    }

    private static void write() {
        BreakSwaps x = new BreakSwaps();
        x.sheet(0, 8, 2);
        x.sheet(1, 16, 2);
        x.sheet(2, 64, 2);
        put(x, 0, 127, 128);
        has("31: 8 bits", x, 0, "127 -128");
        put(x, 0, 511, -129);
        has("31: 8 bits", x, 0, "-1 127");
        put(x, 1, 32767, 32768);
        has("31: 16 bits", x, 1, "32767 -32768");
        put(x, 1, 65536 + 255, -1);
        has("31: 16 bits", x, 1, "255 -1");
        put(x, 2, Long.MIN_VALUE, Long.MAX_VALUE);
        has("31: 64 bits", x, 2, "-9223372036854775808 9223372036854775807");
        due("31: what it was", x.write(2, 1, -1000000001), Long.MAX_VALUE);
        due("31: what it was is no finding", x.write(2, 1, 0), -1000000001);
        due("31: findings", x.status(-1), 0);
        due("31: number 2", x.write(0, 2, 0), Check.BEYOND);
        due("31: number -1", x.write(0, -1, 0), Check.BEYOND);
        due("31: missing before number", x.write(3, -1, 0), Check.MISSING);
        due("31: sheet 4", x.write(4, 0, 0), Check.BEYOND);
        due("31: sheet -1", x.write(-1, 0, 0), Check.BEYOND);
        due("31: missing", x.status(5), 1);
        due("31: beyond", x.status(0), 4);
    }

    private static void copy() {
        BreakSwaps x = new BreakSwaps();
        x.sheet(0, 8, 5);
        x.sheet(1, 8, 3);
        put(x, 0, 1, 2, 3, 4, 5);
        due("32: to another", x.copy(0, 2, 1, 0, 3), 3);
        has("32: to another", x, 1, "3 4 5");
        has("32: it stays", x, 0, "1 2 3 4 5");
        due("32: one", x.copy(1, 2, 0, 1, 1), 1);
        has("32: one", x, 0, "1 5 3 4 5");
        put(x, 0, 1, 2, 3, 4, 5);
        due("32: upwards in itself", x.copy(0, 0, 0, 1, 4), 4);
        has("32: as they all were", x, 0, "1 1 2 3 4");
        put(x, 0, 1, 2, 3, 4, 5);
        due("32: downwards in itself", x.copy(0, 1, 0, 0, 4), 4);
        has("32: as they all were", x, 0, "2 3 4 5 5");
        due("32: none", x.copy(0, 5, 1, 3, 0), 0);
        x.sheet(2, 64, 1);
        x.sheet(3, 64, 1);
        x.write(2, 0, Long.MIN_VALUE + 5);
        due("32: a long one", x.copy(2, 0, 3, 0, 1), 1);
        due("32: a long one", x.write(3, 0, 0), Long.MIN_VALUE + 5);
        due("32: no finding", x.status(-1), 0);
    }

    private static void copyFindings() {
        BreakSwaps x = new BreakSwaps();
        x.sheet(0, 8, 5);
        x.sheet(1, 8, 3);
        x.sheet(2, 16, 5);
        due("32: no such sheet", x.copy(4, 0, 3, 0, 0), Check.BEYOND);
        due("32: no such other one", x.copy(3, 0, 4, 0, 0), Check.BEYOND);
        due("32: no sheet -1", x.copy(-1, 0, 0, 0, 0), Check.BEYOND);
        due("32: no other sheet -1", x.copy(0, 0, -1, 0, 0), Check.BEYOND);
        due("32: it is missing", x.copy(3, -1, 0, 0, 0), Check.MISSING);
        due("32: the other is missing", x.copy(0, -1, 3, 0, 0), Check.MISSING);
        due("32: both are missing", x.copy(3, 0, 3, 0, 0), Check.MISSING);
        due("32: other bits", x.copy(0, -1, 2, 0, 9), Check.KIND);
        due("32: from -1", x.copy(0, -1, 1, 0, 1), Check.BEYOND);
        due("32: to -1", x.copy(0, 0, 1, -1, 1), Check.BEYOND);
        due("32: n -1", x.copy(0, 1, 1, 1, -1), Check.BEYOND);
        due("32: not so many", x.copy(0, 3, 1, 0, 3), Check.BEYOND);
        due("32: no room for so many", x.copy(0, 0, 1, 1, 3), Check.BEYOND);
        due("32: from behind the end", x.copy(0, 6, 1, 0, 0), Check.BEYOND);
        due("32: to behind the end", x.copy(0, 0, 1, 4, 0), Check.BEYOND);
        due("32: far", x.copy(0, Integer.MAX_VALUE, 1, 0, Integer.MAX_VALUE), Check.BEYOND);
        due("32: far", x.copy(0, 1, 1, 1, Integer.MAX_VALUE), Check.BEYOND);
        due("32: status", x.status(2), 1);
    }

    private static void lays() {
        BreakSwaps x = new BreakSwaps();
        x.child(0, 0);
        x.child(0, 0);
        x.sheet(0, 16, 12);
        put(x, 0, 0, 20, 21, -1, 256, 5, 276, 1, 2, 3, 4, 5);
        due("33: six came", x.lays(0, 1), 6);
        int[] likes = {0, 20, 3, 10, 6, 5, 9, 1, 2, 3};
        for (int t = 0; t < 10; t++) {
            due("33: likes " + t, x.worth(1, t), likes[t]);
        }
        due("33: another one's", x.worth(0, 1), 7);
        x.sheet(1, 64, 2);
        put(x, 1, 1L << 32 | 5, 11);
        due("33: of 64 bits", x.lays(1, 0), 1);
        due("33: one is left out", x.worth(0, 0), 0);
        due("33: one came", x.worth(0, 1), 11);
        x.sheet(1, 8, 0);
        due("33: none", x.lays(1, 0), 0);
        due("33: sheet 4", x.lays(4, 0), Check.BEYOND);
        due("33: sheet -1", x.lays(-1, 0), Check.BEYOND);
        due("33: missing", x.lays(2, 9), Check.MISSING);
        due("33: nobody", x.lays(0, 2), Check.BEYOND);
        due("33: nobody at -1", x.lays(0, -1), Check.BEYOND);
    }

    /** Three to whom all is worth the same; RoundsTest says what they have when. */
    private static BreakSwaps threeCheats() {
        BreakSwaps x = new BreakSwaps();
        for (int c = 0; c < 3; c++) {
            x.child(4, c + 1);
            for (int t = 0; t < 10; t++) {
                x.likes(c, t, 5);
            }
        }
        return x;
    }

    private static void book() {
        BreakSwaps x = threeCheats();
        x.sheet(0, 8, 6);
        x.sheet(1, 64, 3);
        due("34: six", x.book(0, 0), 6);
        has("34: six", x, 0, "1 3 3 2 1 1");
        due("34: three", x.book(1, 1), 3);
        has("34: three", x, 1, "2 2 1");
        x.sheet(2, 16, 0);
        due("34: none", x.book(2, 2), 0);
        x.sheet(2, 16, 40);
        due("34: forty", x.book(2, 2), 40);
        due("34: the last", x.write(2, 39, 0), 2);
        due("34: nothing changes", x.now(0) + x.now(5), 0);
        due("34: sheet 4", x.book(4, 0), Check.BEYOND);
        due("34: sheet -1", x.book(-1, 0), Check.BEYOND);
        due("34: missing", x.book(3, 9), Check.MISSING);
        due("34: nobody", x.book(0, 3), Check.BEYOND);
        due("34: nobody at -1", x.book(0, -1), Check.BEYOND);
    }

    private static void read() {
        BreakSwaps x = new BreakSwaps();
        x.rounds(1);
        x.child(0, 0);
        x.child(0, 3);
        x.likes(1, 0, 11);
        x.sheet(0, 8, 0);
        due("35: no number", x.read(0, 0, 1), 36);
        x.sheet(0, 64, 1);
        x.write(0, 0, 0);
        due("35: what it has now", x.read(0, 0, 1), 36);
        x.write(0, 0, 1L << 32);
        due("35: another number", x.read(0, 0, 1), 0);
        x.sheet(0, 8, 2);
        put(x, 0, 0, 3);
        // 0 gains 10 and more by a swap, so all kinds of it agree; 1 gains 1, so KING and, with 0 swaps, NEW do not.
        // In round 1 SHY asks nobody: of the others only SHY with SHY comes to no swap.
        due("35: they swap in round 1", x.read(0, 0, 1), 6 * 4 - 1);
        put(x, 0, 0, 0);
        due("35: they don't", x.read(0, 0, 1), 36 - 23);
        put(x, 0, 3, 0);
        due("35: not what it has now", x.read(0, 0, 1), 0);
        due("35: of the other one", x.read(0, 1, 0), 23);
        due("35: nothing changes", x.of(0, 0) + x.of(1, 0) + x.now(5), 0);
        due("35: round", x.now(0), 1);
        due("35: one and the same", x.read(0, 1, 1), Check.BEYOND);
        due("35: nobody", x.read(0, 2, 1), Check.BEYOND);
        due("35: no other one", x.read(0, 1, 2), Check.BEYOND);
        due("35: nobody at -1", x.read(0, -1, 1), Check.BEYOND);
        due("35: no other one at -1", x.read(0, 1, -1), Check.BEYOND);
        due("35: missing", x.read(1, 1, 1), Check.MISSING);
        due("35: sheet 4", x.read(4, 0, 1), Check.BEYOND);
        due("35: sheet -1", x.read(-1, 0, 1), Check.BEYOND);
    }
}
