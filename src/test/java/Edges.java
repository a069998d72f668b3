import java.io.IOException;

/** The rows of an edge test: each stands behind the words of the document that it would fail without. */
final class Edges {
    private final Check check = new Check();
    private final Quotes quotes;
    private String passage = "";
    private String words = "";
    private int rowsBefore = 0;

    Edges() throws IOException {
        quotes = new Quotes();
    }

    /** Opens a passage: the number of a promise, or how a term begins. */
    void passage(String which) {
        closeWords();
        passage = which;
    }

    /** The next words of the passage; the rows behind them are theirs. */
    void says(String next) {
        closeWords();
        words = next;
        rowsBefore = check.asked();
        quotes.quote(passage, next);
    }

    private void closeWords() {
        check.holds("no row for: " + passage + ": " + words, words.isEmpty() || check.asked() > rowsBefore);
        words = "";
    }

    void due(String what, long got, long want) {
        check.due(passage + ": \"" + words + "\": " + what, got, want);
    }

    void holds(String what, boolean is) {
        due(what, is ? 1 : 0, 1);
    }

    void end() {
        closeWords();
        for (String gap : quotes.gaps()) {
            check.holds(gap, false);
        }
        check.end();
    }

    Run empty() {
        return new Run(this);
    }

    /** A yard told in a text. */
    Run yard(String text) {
        return told(new Run(this), text);
    }

    /** A yard told in a text in round 1, when shy ones ask nobody. */
    Run inRoundOne(String text) {
        return told(new Run(this).go("rounds(1)"), text);
    }

    private Run told(Run run, String text) {
        holds("\"" + text + "\" stands", run.tell(text) > 0);
        return run;
    }

    /**
     * Seven children of all kinds, in round 3, three sheets (the fourth is missing), a tape that can be read and an
     * image of two: so that most calls have something to change.
     */
    static BreakSwaps made() {
        BreakSwaps x = new BreakSwaps();
        Calls.askAll(x, "rounds(3); child(1, 4); child(5, 7); likes(1, 2, 19); image(); child(0, 0)");
        Check.yard(x, "cheat 3 trust 61; shy 3 likes 20 1; nut 9; new 6; swap 1 3");
        Calls.askAll(x, "set(0, 2, 7); set(5, 3, 8); likes(4, 0, 11)");
        Calls.askAll(x, "sheet(0, 8, 5); write(0, 0, 4); write(0, 4, 6); sheet(1, 16, 3); write(1, 2, 21)");
        Calls.askAll(x, "sheet(2, 64, 4); write(2, 1, 5000000000)");
        Check.feed(x, "king 8 trust 9;teacher");
        return x;
    }

    /** A call with a ? is answered with something from the least to the most number, and BEYOND at all others. */
    void range(String call, int least, int most) {
        range("count(0)", call, least, most);
    }

    /** As range, but some calls come before it. */
    void range(String before, String call, int least, int most) {
        accepted(before, call, least);
        accepted(before, call, most);
        // The last ones look like good numbers by their lowest two bytes, or three.
        int[] others = {least - 1, most + 1, Integer.MIN_VALUE, Integer.MAX_VALUE, least - (1 << 16), most + (1 << 16),
            least - (1 << 24), most + (1 << 24)};
        for (int v : others) {
            refused(before, call.replace("?", String.valueOf(v)), Check.BEYOND);
        }
    }

    /** A call whose ? is a child: each that is there, and no other. */
    void children(String call) {
        range(call, 0, 6);
        Run run = empty();
        run.due(call.replace("?", "0"), Check.BEYOND);
        for (int c = 0; c < 8; c++) {
            run.go("child(0, 1)");
        }
        run.due(call.replace("?", "8"), Check.BEYOND);
        run.due(call.replace("?", "9"), Check.BEYOND);
    }

    private void accepted(String before, String call, int v) {
        String told = call.replace("?", String.valueOf(v));
        long got = Calls.ask(made(before), told);
        holds(told + " answered " + got, got != Check.BEYOND && got != Check.SIZE && got != Check.MISSING);
    }

    private static BreakSwaps made(String calls) {
        BreakSwaps x = made();
        Calls.askAll(x, calls);
        return x;
    }

    /** A call that the made yard refuses: it answers a finding, which is counted, and all else stays. */
    void refused(String call, int finding) {
        refused("count(0)", call, finding);
    }

    /** As refused, but some calls come before it. */
    void refused(String before, String call, int finding) {
        BreakSwaps x = made(before);
        BreakSwaps other = made(before);
        int which = Check.BEYOND - finding;
        int all = x.status(-1);
        int some = x.status(which);
        due(call, Calls.ask(other, call), finding);
        String changes = new Snapshot(x).changesTo(new Snapshot(other));
        String want = "status(-1) " + all + ">" + (all + 1) + ", status(" + which + ") " + some + ">" + (some + 1);
        holds(call + " changed " + changes, changes.equals(want));
    }

    /** What a call changes in the made yard, as Snapshot tells it, and nothing else. */
    void changes(String call, String want) {
        changes("count(0)", call, want);
    }

    /** As changes, but some calls come before it. */
    void changes(String before, String call, String want) {
        BreakSwaps other = made(before);
        Calls.ask(other, call);
        String got = new Snapshot(made(before)).changesTo(new Snapshot(other));
        holds(call + " changed " + got + ", due is " + want, got.equals(want));
    }

    /** A question changes nothing at all. */
    void same(String call) {
        changes(call, "");
    }
}
