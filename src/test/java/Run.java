/** One object that is asked call after call, for rows of an edge test. */
final class Run {
    private final Edges edges;
    private final BreakSwaps x = new BreakSwaps();

    Run(Edges edges) {
        this.edges = edges;
    }

    Run due(String call, long want) {
        edges.due(call, Calls.ask(x, call), want);
        return this;
    }

    /** Calls, parted by "; ", whose answers nobody looks at. */
    Run go(String calls) {
        Calls.askAll(x, calls);
        return this;
    }

    long tell(String text) {
        return Check.yard(x, text);
    }

    Run tellDue(String text, long want) {
        edges.due("\"" + text + "\"", tell(text), want);
        return this;
    }

    /** What each child has, parted by blanks. */
    Run have(String want) {
        return each("has", 1, want);
    }

    /** How often each has swapped, parted by blanks. */
    Run swapped(String want) {
        return each("swapped", 2, want);
    }

    Run trusts(String want) {
        return each("trust", 3, want);
    }

    /** The numbers of a sheet, parted by blanks, which are read by writing others and then put back. */
    Run numbers(int s, String want) {
        StringBuilder got = new StringBuilder();
        for (int i = 0; i < want.split(" ").length; i++) {
            long v = x.write(s, i, 0);
            x.write(s, i, v);
            got.append(i == 0 ? "" : " ").append(v);
        }
        edges.holds("sheet " + s + " has " + got + ", due is " + want, got.toString().equals(want));
        return this;
    }

    private Run each(String name, int what, String want) {
        StringBuilder got = new StringBuilder();
        for (int c = 0; c < x.count(0); c++) {
            got.append(c == 0 ? "" : " ").append(x.of(c, what));
        }
        edges.holds(name + " " + got + ", due is " + want, got.toString().equals(want));
        return this;
    }
}
