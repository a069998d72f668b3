/**
 * A school yard at break: children of kinds, each with one thing, who swap two by two.
 *
 * Every row is made in the constructor and used again, because all calls of a run share one room.
 */
public final class BreakSwaps {
    private static final int FINDING = -1000000001;
    private static final int BEYOND = 0;
    private static final int FULL = 1;
    private static final int KIND = 2;
    private static final int NONE = 3;
    private static final int STATE = 4;
    private static final int MISSING = 5;
    private static final int SIZE = 6;
    private static final int FINDINGS = 7;

    private static final int MOST_CHILDREN = 8;
    private static final int THINGS = 10;
    private static final int NUTS = 9;
    private static final int MOST_LIKED = 20;
    private static final int MOST_SWAPPED = 9999;
    private static final int MOST_TRUST = 99;
    private static final int TRUST_AT_FIRST = 50;
    private static final int TRUST_TO_BE_ASKED = 10;
    private static final int LAST_ROUND = 99999;
    private static final int MOST_ROUNDS_AT_ONCE = 60;
    private static final int FAR = 100;
    private static final int NEAR = 40;
    private static final int LEAST_WISH = -20;
    private static final int MOST_WISH = 40;

    private static final int SHEETS = 4;
    private static final int MOST_NUMBERS = 40;
    private static final int MOST_BYTES = 120;

    private final Yard live = new Yard();
    private final Yard kept = new Yard();
    /** What would be is tried here, so that nothing of the live yard changes. */
    private final Yard trial = new Yard();
    private final Best best = new Best();
    private final YardText text = new YardText();
    private final Tape tape = text.tape;
    private final Sheet[] sheets = new Sheet[SHEETS];
    private final int[] found = new int[FINDINGS];
    private boolean isKept = false;

    public BreakSwaps() {
        for (int s = 0; s < SHEETS; s++) {
            sheets[s] = new Sheet();
        }
    }

    // ---- the yard

    public int teacher(int v) {
        if (!isWithin(v, 0, 1)) {
            return finding(BEYOND);
        }
        int was = live.teacher;
        live.teacher = v;
        return was;
    }

    public int now(int what) {
        switch (what) {
            case 0: return live.round;
            case 1: return live.teacher;
            case 2: return live.thingsHeld();
            case 3: return live.gladOfAll();
            case 4: return live.isOver() ? 1 : 0;
            case 5: return live.swappedOfAll();
            default: return finding(BEYOND);
        }
    }

    public int who(int thing) {
        if (!isThing(thing)) {
            return finding(BEYOND);
        }
        return live.holdersOf(thing);
    }

    // ---- children

    public int child(int kind, int thing) {
        if (!Kinds.isKind(kind) || !isThing(thing)) {
            return finding(BEYOND);
        }
        if (live.isFull()) {
            return finding(FULL);
        }
        return live.addOne(kind, thing);
    }

    public int of(int child, int what) {
        if (!isThere(child)) {
            return finding(BEYOND);
        }
        switch (what) {
            case 0: return live.kinds[child];
            case 1: return live.has[child];
            case 2: return live.swapped[child];
            case 3: return live.trusts[child];
            case 4: return live.gladOf(child);
            case 5: return Kinds.asksOf(live.kinds[child], live.round);
            case 6: return Kinds.losesOf(live.kinds[child]);
            default: return finding(BEYOND);
        }
    }

    public int set(int child, int what, int v) {
        if (!isThere(child) || !isWithin(what, 1, 3) || !isWithin(v, 0, mostOf(what))) {
            return finding(BEYOND);
        }
        int was;
        if (what == 1) {
            was = live.has[child];
            live.give(child, v);
        } else if (what == 2) {
            was = live.swapped[child];
            live.swapped[child] = v;
        } else {
            was = live.trusts[child];
            live.trusts[child] = v;
        }
        return was;
    }

    public int likes(int child, int thing, int v) {
        if (!isThere(child) || !isThing(thing) || !isWithin(v, 0, MOST_LIKED)) {
            return finding(BEYOND);
        }
        int was = live.likedBy(child, thing);
        live.makeLike(child, thing, v);
        return was;
    }

    public int worth(int child, int thing) {
        if (!isThere(child) || !isThing(thing)) {
            return finding(BEYOND);
        }
        return live.worthTo(child, thing);
    }

    public int agrees(int child, int thing) {
        if (!isThere(child) || !isThing(thing)) {
            return finding(BEYOND);
        }
        return live.agreesTo(child, thing) ? 1 : 0;
    }

    public int turn(int child, int kind) {
        if (!isThere(child) || !Kinds.isKind(kind)) {
            return finding(BEYOND);
        }
        int was = live.kinds[child];
        live.kinds[child] = kind;
        return was;
    }

    public int as(int child, int kind) {
        if (!isThere(child) || !Kinds.isKind(kind)) {
            return finding(BEYOND);
        }
        if (!Kinds.isUnder(live.kinds[child], kind)) {
            return finding(KIND);
        }
        return live.trusts[child];
    }

    public int swap(int child, int other) {
        if (!areTwo(child, other)) {
            return finding(BEYOND);
        }
        live.exchange(child, other);
        return live.gladOf(child);
    }

    public int mates(int child) {
        if (!isThere(child)) {
            return finding(BEYOND);
        }
        int set = 0;
        for (int other = 0; other < live.size; other++) {
            if (live.wouldSwap(child, other)) {
                set |= 1 << other;
            }
        }
        return set;
    }

    public int ring() {
        for (int a = 0; a < live.size; a++) {
            for (int b = 0; b < live.size; b++) {
                int c = live.wants(a, b) ? live.closesRing(a, b) : -1;
                if (c >= 0) {
                    return 100 * a + 10 * b + c;
                }
            }
        }
        return finding(NONE);
    }

    // ---- rounds

    public int rounds(int n) {
        if (!isWithin(n, 1, MOST_ROUNDS_AT_ONCE)) {
            return finding(BEYOND);
        }
        if (live.round + n > LAST_ROUND) {
            return finding(STATE);
        }
        live.goOn(n);
        return live.swappedOfAll();
    }

    public int on(int child, int n, int what) {
        if (!isThere(child) || !isWithin(n, 0, FAR) || !isWithin(what, 0, 3)) {
            return finding(BEYOND);
        }
        trial.become(live);
        trial.goOn(n);
        switch (what) {
            case 0: return trial.has[child];
            case 1: return trial.swapped[child];
            case 2: return trial.trusts[child];
            default: return trial.gladOf(child);
        }
    }

    public int glad(int n) {
        if (!isWithin(n, 0, FAR)) {
            return finding(BEYOND);
        }
        trial.become(live);
        trial.goOn(n);
        return trial.gladOfAll();
    }

    public int gets(int child, int thing) {
        if (!isThere(child) || !isThing(thing)) {
            return finding(BEYOND);
        }
        trial.become(live);
        for (int n = 0; n <= FAR; n++) {
            if (trial.has[child] == thing) {
                return n;
            }
            trial.playRound();
        }
        return finding(NONE);
    }

    public int over() {
        trial.become(live);
        for (int n = 0; n <= FAR; n++) {
            if (trial.isOver()) {
                return n;
            }
            trial.playRound();
        }
        return finding(NONE);
    }

    // ---- what is best

    public int first(int child, int n) {
        if (!isThere(child) || !isWithin(n, 0, NEAR)) {
            return finding(BEYOND);
        }
        best.begin();
        for (int other = 0; other < live.size; other++) {
            if (other != child) {
                trial.become(live);
                trial.exchange(child, other);
                trial.goOn(n);
                best.offer(other, trial.gladOf(child));
            }
        }
        return bestOrNone();
    }

    public int bring(int child, int n) {
        if (!isThere(child) || !isWithin(n, 0, NEAR)) {
            return finding(BEYOND);
        }
        best.begin();
        for (int thing = 0; thing < THINGS; thing++) {
            trial.become(live);
            trial.give(child, thing);
            trial.goOn(n);
            best.offer(thing, trial.gladOf(child));
        }
        return bestOrNone();
    }

    public int kind(int child, int n) {
        if (!isThere(child) || !isWithin(n, 0, NEAR)) {
            return finding(BEYOND);
        }
        best.begin();
        for (int kind = 0; kind < Kinds.KINDS; kind++) {
            trial.become(live);
            trial.kinds[child] = kind;
            trial.goOn(n);
            // How much it likes a thing is the same as any kind, so that kinds can be compared by it.
            best.offer(kind, trial.likedBy(child, trial.has[child]));
        }
        return bestOrNone();
    }

    public int trust(int child, int n, int v) {
        if (!isThere(child) || !isWithin(n, 0, NEAR) || !isWithin(v, LEAST_WISH, MOST_WISH)) {
            return finding(BEYOND);
        }
        for (int trust = 0; trust <= MOST_TRUST; trust++) {
            trial.become(live);
            trial.trusts[child] = trust;
            trial.goOn(n);
            if (trial.gladOf(child) >= v) {
                return trust;
            }
        }
        return finding(NONE);
    }

    public int away(int n) {
        if (!isWithin(n, 0, NEAR)) {
            return finding(BEYOND);
        }
        best.begin();
        for (int child = 0; child < live.size; child++) {
            trial.become(live);
            trial.trusts[child] = 0;
            trial.goOn(n);
            best.offer(child, trial.gladOfAll());
        }
        return bestOrNone();
    }

    public int winner(int n) {
        if (!isWithin(n, 0, FAR)) {
            return finding(BEYOND);
        }
        trial.become(live);
        trial.goOn(n);
        best.begin();
        for (int child = 0; child < live.size; child++) {
            best.offer(child, trial.gladOf(child) - live.gladOf(child));
        }
        return bestOrNone();
    }

    // ---- the text

    public int feed(int bytes, int n) {
        if (!isWithin(n, 1, 4)) {
            return finding(BEYOND);
        }
        if (tape.length + n > MOST_BYTES) {
            return finding(FULL);
        }
        for (int i = n - 1; i >= 0; i--) {
            tape.append((bytes >> (8 * i)) & 255);
        }
        return tape.length;
    }

    public int wipe() {
        int had = tape.length;
        tape.length = 0;
        return had;
    }

    public int yard() {
        trial.become(live);
        int answer = text.readInto(trial);
        if (answer >= 0) {
            live.become(trial);
        }
        tape.length = 0;
        return answer;
    }

    // ---- sheets

    public int sheet(int s, int bits, int n) {
        if (!isSheet(s) || !Sheet.isWidth(bits)) {
            return finding(BEYOND);
        }
        if (n < 0) {
            return finding(SIZE);
        }
        if (n > MOST_NUMBERS) {
            return finding(BEYOND);
        }
        sheets[s].layOut(bits, n);
        return sheets[s].length;
    }

    public long write(int s, int i, long v) {
        if (!isSheet(s)) {
            return finding(BEYOND);
        }
        Sheet sheet = sheets[s];
        if (sheet.isMissing()) {
            return finding(MISSING);
        }
        if (!isWithin(i, 0, sheet.length - 1)) {
            return finding(BEYOND);
        }
        long was = sheet.row[i];
        sheet.put(i, v);
        return was;
    }

    public int copy(int s, int from, int t, int to, int n) {
        if (!isSheet(s) || !isSheet(t)) {
            return finding(BEYOND);
        }
        Sheet source = sheets[s];
        Sheet target = sheets[t];
        if (source.isMissing() || target.isMissing()) {
            return finding(MISSING);
        }
        if (source.bits != target.bits) {
            return finding(KIND);
        }
        if (!source.hasSpan(from, n) || !target.hasSpan(to, n)) {
            return finding(BEYOND);
        }
        System.arraycopy(source.row, from, target.row, to, n);
        return n;
    }

    public int lays(int s, int child) {
        int wrong = sheetFinding(s, child);
        if (wrong >= 0) {
            return finding(wrong);
        }
        Sheet sheet = sheets[s];
        int came = 0;
        for (int thing = 0; thing < THINGS && thing < sheet.length; thing++) {
            long v = sheet.row[thing];
            if (v >= 0 && v <= MOST_LIKED) {
                live.makeLike(child, thing, (int) v);
                came++;
            }
        }
        return came;
    }

    public int book(int s, int child) {
        int wrong = sheetFinding(s, child);
        if (wrong >= 0) {
            return finding(wrong);
        }
        Sheet sheet = sheets[s];
        trial.become(live);
        for (int i = 0; i < sheet.length; i++) {
            sheet.put(i, trial.has[child]);
            trial.playRound();
        }
        return sheet.length;
    }

    public int read(int s, int child, int other) {
        int wrong = sheetFinding(s, child);
        if (wrong >= 0) {
            return finding(wrong);
        }
        if (!areTwo(child, other)) {
            return finding(BEYOND);
        }
        int pairs = 0;
        for (int mine = 0; mine < Kinds.KINDS; mine++) {
            for (int others = 0; others < Kinds.KINDS; others++) {
                trial.become(live);
                trial.kinds[child] = mine;
                trial.kinds[other] = others;
                if (trial.goesAsBooked(child, sheets[s])) {
                    pairs++;
                }
            }
        }
        return pairs;
    }

    // ---- images

    public int image() {
        kept.become(live);
        isKept = true;
        return 1;
    }

    public int undo() {
        if (!isKept) {
            return finding(NONE);
        }
        live.become(kept);
        return live.size;
    }

    public int tear() {
        int was = isKept ? 1 : 0;
        isKept = false;
        return was;
    }

    public int count(int what) {
        switch (what) {
            case 0: return live.size;
            case 1: return tape.length;
            case 2: return live.trustOfAll();
            case 3: return THINGS - Integer.bitCount(live.thingsHeld());
            default: return finding(BEYOND);
        }
    }

    public int status(int which) {
        if (which == -1) {
            int all = 0;
            for (int f = 0; f < FINDINGS; f++) {
                all += found[f];
            }
            return all;
        }
        return isWithin(which, 0, FINDINGS - 1) ? found[which] : finding(BEYOND);
    }

    // ---- what the calls ask of their arguments

    private int finding(int which) {
        found[which]++;
        return FINDING - which;
    }

    private int bestOrNone() {
        return best.which < 0 ? finding(NONE) : best.which;
    }

    private static boolean isWithin(int v, int least, int most) {
        return v >= least && v <= most;
    }

    private static boolean isThing(int thing) {
        return isWithin(thing, 0, THINGS - 1);
    }

    private static boolean isSheet(int s) {
        return isWithin(s, 0, SHEETS - 1);
    }

    private boolean isThere(int child) {
        return isWithin(child, 0, live.size - 1);
    }

    private boolean areTwo(int child, int other) {
        return isThere(child) && isThere(other) && child != other;
    }

    /** The most that set() lets a what of one be. */
    private static int mostOf(int what) {
        switch (what) {
            case 1: return THINGS - 1;
            case 2: return MOST_SWAPPED;
            default: return MOST_TRUST;
        }
    }

    /** What speaks against a sheet and a child, in the order in which it is asked; -1: nothing. */
    private int sheetFinding(int s, int child) {
        if (!isSheet(s)) {
            return BEYOND;
        }
        if (sheets[s].isMissing()) {
            return MISSING;
        }
        return isThere(child) ? -1 : BEYOND;
    }

    /** Which of several offers, made by rising numbers, is most; of several the first, so the least. */
    private static final class Best {
        int which = -1;
        private int most = 0;

        void begin() {
            which = -1;
        }

        void offer(int one, int v) {
            if (which < 0 || v > most) {
                which = one;
                most = v;
            }
        }
    }

    /** The document's rules in which the kinds differ. */
    private static final class Kinds {
        static final int CHILD = 0;
        static final int KING = 1;
        static final int SHY = 2;
        static final int NUT = 3;
        static final int CHEAT = 4;
        static final int NEW = 5;
        static final int KINDS = 6;
        /** The kind above each; -1: none is. */
        private static final int[] ABOVE = {-1, CHILD, CHILD, CHILD, KING, SHY};

        static boolean isKind(int kind) {
            return kind >= 0 && kind < KINDS;
        }

        static boolean isUnder(int kind, int top) {
            int at = kind;
            for (int step = 0; step < KINDS && at >= 0; step++) {
                if (at == top) {
                    return true;
                }
                at = ABOVE[at];
            }
            return false;
        }

        static int worthOf(int kind, int thing, int liked, int holders) {
            switch (kind) {
                case KING:
                case CHEAT: return holders == 1 ? liked + 3 : liked;
                case NUT: return thing == NUTS ? -20 : liked;
                case NEW: return liked + holders;
                default: return liked;
            }
        }

        static boolean agreesFor(int kind, int gain, int swapped, int teacher) {
            switch (kind) {
                case KING: return gain >= 3;
                case SHY: return gain > 0 && teacher == 0;
                case CHEAT: return gain >= 0 && swapped < 20;
                case NEW: return gain > (swapped == 0 ? 1 : 0) && teacher == 0;
                default: return gain > 0;
            }
        }

        static int asksOf(int kind, int round) {
            int shy = round % 2 == 0 ? 1 : 0;
            switch (kind) {
                case KING:
                case CHEAT: return 7;
                case SHY: return shy;
                case NEW: return shy + 1;
                default: return 2;
            }
        }

        static int losesOf(int kind) {
            switch (kind) {
                case KING: return 1;
                case CHEAT: return 10;
                default: return 0;
            }
        }
    }

    /** All that an image keeps, and how it goes on by itself. */
    private static final class Yard {
        int round = 0;
        int teacher = 0;
        int size = 0;
        final int[] kinds = new int[MOST_CHILDREN];
        final int[] has = new int[MOST_CHILDREN];
        final int[] swapped = new int[MOST_CHILDREN];
        final int[] trusts = new int[MOST_CHILDREN];
        private final int[] liked = new int[MOST_CHILDREN * THINGS];
        /** How many have each thing; a swap changes none of these. */
        private final int[] holders = new int[THINGS];
        private final Best toAsk = new Best();
        /** How many rounds in a row, up to now, saw no swap. */
        private int quiet = 0;

        boolean isFull() {
            return size >= MOST_CHILDREN;
        }

        /** Asked only of a yard that isn't full. */
        int addOne(int kind, int thing) {
            int one = size;
            size = one + 1;
            kinds[one] = kind;
            has[one] = thing;
            holders[thing]++;
            swapped[one] = 0;
            trusts[one] = TRUST_AT_FIRST;
            for (int t = 0; t < THINGS; t++) {
                makeLike(one, t, 7 * t % 11);
            }
            return one;
        }

        void become(Yard other) {
            round = other.round;
            teacher = other.teacher;
            size = other.size;
            System.arraycopy(other.kinds, 0, kinds, 0, MOST_CHILDREN);
            System.arraycopy(other.has, 0, has, 0, MOST_CHILDREN);
            System.arraycopy(other.swapped, 0, swapped, 0, MOST_CHILDREN);
            System.arraycopy(other.trusts, 0, trusts, 0, MOST_CHILDREN);
            System.arraycopy(other.liked, 0, liked, 0, MOST_CHILDREN * THINGS);
            System.arraycopy(other.holders, 0, holders, 0, THINGS);
            quiet = 0;
        }

        void give(int child, int thing) {
            holders[has[child]]--;
            holders[thing]++;
            has[child] = thing;
        }

        int likedBy(int child, int thing) {
            return liked[child * THINGS + thing];
        }

        void makeLike(int child, int thing, int v) {
            liked[child * THINGS + thing] = v;
        }

        int thingsHeld() {
            int set = 0;
            for (int child = 0; child < size; child++) {
                set |= 1 << has[child];
            }
            return set;
        }

        int holdersOf(int thing) {
            int set = 0;
            for (int child = 0; child < size; child++) {
                if (has[child] == thing) {
                    set |= 1 << child;
                }
            }
            return set;
        }

        int gladOfAll() {
            int sum = 0;
            for (int child = 0; child < size; child++) {
                sum += gladOf(child);
            }
            return sum;
        }

        int swappedOfAll() {
            int sum = 0;
            for (int child = 0; child < size; child++) {
                sum += swapped[child];
            }
            return sum;
        }

        int trustOfAll() {
            int sum = 0;
            for (int child = 0; child < size; child++) {
                sum += trusts[child];
            }
            return sum;
        }

        int worthTo(int child, int thing) {
            return Kinds.worthOf(kinds[child], thing, likedBy(child, thing), holders[thing]);
        }

        int gladOf(int child) {
            return worthTo(child, has[child]);
        }

        boolean agreesTo(int child, int thing) {
            int gain = worthTo(child, thing) - worthTo(child, has[child]);
            return Kinds.agreesFor(kinds[child], gain, swapped[child], teacher);
        }

        /** Whether one would give what it has for what another one has, which is not the same. */
        boolean wants(int child, int other) {
            return has[child] != has[other] && agreesTo(child, has[other]);
        }

        boolean wouldSwap(int child, int other) {
            return wants(child, other) && wants(other, child);
        }

        /** The least child that makes a ring of three with two of which the first wants what the second has; or -1. */
        int closesRing(int a, int b) {
            for (int c = 0; c < size; c++) {
                if (wants(b, c) && wants(c, a)) {
                    return c;
                }
            }
            return -1;
        }

        boolean isOver() {
            for (int child = 0; child < size; child++) {
                for (int other = 0; other < child; other++) {
                    if (wouldSwap(child, other)) {
                        return false;
                    }
                }
            }
            return true;
        }

        void exchange(int child, int other) {
            int thing = has[child];
            has[child] = has[other];
            has[other] = thing;
            noteSwap(child);
            noteSwap(other);
        }

        private void noteSwap(int child) {
            swapped[child] = Math.min(MOST_SWAPPED, swapped[child] + 1);
            trusts[child] = Math.max(0, trusts[child] - Kinds.losesOf(kinds[child]));
        }

        void goOn(int n) {
            quiet = 0;
            for (int i = 0; i < n; i++) {
                playRound();
            }
        }

        /**
         * Asks go by the rest of ROUND by 2, and by nothing else that a round without a swap changes: after two quiet
         * rounds all later ones are quiet, too. So a caller that changes the yard begins anew with become or goOn.
         */
        void playRound() {
            if (quiet < 2) {
                boolean isQuiet = true;
                for (int child = 0; child < size; child++) {
                    if (takeTurn(child)) {
                        isQuiet = false;
                    }
                }
                quiet = isQuiet ? quiet + 1 : 0;
            }
            round++;
        }

        /** Whether it came to a swap. */
        private boolean takeTurn(int child) {
            int asked = 0;
            for (int left = Kinds.asksOf(kinds[child], round); left > 0; left--) {
                int other = nextToAsk(child, asked);
                if (other < 0) {
                    return false;
                }
                if (agreesTo(child, has[other]) && agreesTo(other, has[child])) {
                    exchange(child, other);
                    return true;
                }
                asked |= 1 << other;
            }
            return false;
        }

        /** The one not yet asked that has what is worth most to a child; -1: nobody is left. */
        private int nextToAsk(int child, int asked) {
            toAsk.begin();
            for (int other = 0; other < size; other++) {
                boolean isOpen = (asked >> other & 1) == 0 && trusts[other] >= TRUST_TO_BE_ASKED;
                // A child has the same thing as itself, so this leaves it out, too.
                if (isOpen && has[other] != has[child]) {
                    toAsk.offer(other, worthTo(child, has[other]));
                }
            }
            return toAsk.which;
        }

        /** Whether, going on from here, one has at each round what the sheet says. */
        boolean goesAsBooked(int child, Sheet sheet) {
            for (int i = 0; i < sheet.length; i++) {
                if (sheet.row[i] != has[child]) {
                    return false;
                }
                playRound();
            }
            return true;
        }
    }

    /** A row of numbers as wide as Java's byte, short or long, with their signs. */
    private static final class Sheet {
        final long[] row = new long[MOST_NUMBERS];
        int bits = 0;
        int length = 0;

        static boolean isWidth(int bits) {
            return bits == 0 || bits == 8 || bits == 16 || bits == 64;
        }

        boolean isMissing() {
            return bits == 0;
        }

        void layOut(int width, int n) {
            bits = width;
            length = width == 0 ? 0 : n;
            for (int i = 0; i < MOST_NUMBERS; i++) {
                row[i] = 0;
            }
        }

        void put(int i, long v) {
            row[i] = bits == 8 ? (byte) v : bits == 16 ? (short) v : v;
        }

        /** Told by what is left behind the start, as start + n may wrap around. */
        boolean hasSpan(int start, int n) {
            return start >= 0 && n >= 0 && start <= length && n <= length - start;
        }
    }

    /** Bytes, and the token at which their reader is. */
    private static final class Tape {
        static final int END = 0;
        static final int WORD = 1;
        static final int NUMBER = 2;
        static final int SEMICOLON = 3;
        static final int OTHER = 4;
        private static final int MOST_NUMBER = 999;

        final int[] bytes = new int[MOST_BYTES];
        int length = 0;
        int token = END;
        /** Where the token begins, and where what is behind it does. */
        int start = 0;
        private int end = 0;
        /** Of a number; one that is too large may be any that is above 999. */
        int value = 0;

        /** Asked only of a tape that isn't full. */
        void append(int b) {
            bytes[length] = b;
            length++;
        }

        void rewind() {
            end = 0;
            advance();
        }

        void advance() {
            start = end;
            while (start < length && bytes[start] == ' ') {
                start++;
            }
            end = start;
            if (start >= length) {
                token = END;
            } else if (isLetter(bytes[start])) {
                takeWord();
            } else if (isDigit(bytes[start])) {
                takeNumber();
            } else {
                token = bytes[start] == ';' ? SEMICOLON : OTHER;
                end++;
            }
        }

        private void takeWord() {
            token = WORD;
            while (end < length && isLetter(bytes[end])) {
                end++;
            }
        }

        private void takeNumber() {
            token = NUMBER;
            value = 0;
            while (end < length && isDigit(bytes[end])) {
                // Held here, so that no row of digits wraps around to a small number.
                if (value <= MOST_NUMBER) {
                    value = 10 * value + bytes[end] - '0';
                }
                end++;
            }
        }

        boolean isNumberUpTo(int most) {
            return token == NUMBER && value <= most;
        }

        boolean isWord(String word) {
            if (token != WORD || word.length() != end - start) {
                return false;
            }
            for (int i = 0; i < word.length(); i++) {
                if (word.charAt(i) != bytes[start + i]) {
                    return false;
                }
            }
            return true;
        }

        private static boolean isLetter(int b) {
            return b >= 'a' && b <= 'z';
        }

        private static boolean isDigit(int b) {
            return b >= '0' && b <= '9';
        }
    }

    /**
     * The text of a yard. Each part is read from the token at which the tape is, and answers whether it can stand
     * there; where it can't, the tape stays at the token at fault.
     */
    private static final class YardText {
        private static final int MOST_LIKES = 4;

        final Tape tape = new Tape();

        /** How many items came to the yard, or -1 less the place of the fault (some may have come then). */
        int readInto(Yard yard) {
            tape.rewind();
            for (int items = 1; items <= MOST_BYTES; items++) {
                if (!readItem(yard)) {
                    break;
                }
                if (tape.token == Tape.END) {
                    return items;
                }
                if (tape.token != Tape.SEMICOLON) {
                    break;
                }
                tape.advance();
            }
            return -1 - tape.start;
        }

        private boolean readItem(Yard yard) {
            if (tape.isWord("teacher") || tape.isWord("none")) {
                yard.teacher = tape.isWord("teacher") ? 1 : 0;
                tape.advance();
                return true;
            }
            if (tape.isWord("swap")) {
                return readSwap(yard);
            }
            int kind = kindNamed();
            if (kind < 0 || yard.isFull() || !readChild(yard, kind)) {
                return false;
            }
            int one = yard.size - 1;
            return readTrust(yard, one) && readLikes(yard, one);
        }

        private int kindNamed() {
            for (int kind = 0; kind < Kinds.KINDS; kind++) {
                if (tape.isWord(nameOf(kind))) {
                    return kind;
                }
            }
            return -1;
        }

        private static String nameOf(int kind) {
            switch (kind) {
                case Kinds.CHILD: return "child";
                case Kinds.KING: return "king";
                case Kinds.SHY: return "shy";
                case Kinds.NUT: return "nut";
                case Kinds.CHEAT: return "cheat";
                default: return "new";
            }
        }

        private boolean readSwap(Yard yard) {
            tape.advance();
            if (!tape.isNumberUpTo(yard.size - 1)) {
                return false;
            }
            int one = tape.value;
            tape.advance();
            if (!tape.isNumberUpTo(yard.size - 1) || tape.value == one) {
                return false;
            }
            yard.exchange(one, tape.value);
            tape.advance();
            return true;
        }

        private boolean readChild(Yard yard, int kind) {
            tape.advance();
            if (!tape.isNumberUpTo(THINGS - 1)) {
                return false;
            }
            yard.addOne(kind, tape.value);
            tape.advance();
            return true;
        }

        private boolean readTrust(Yard yard, int one) {
            if (!tape.isWord("trust")) {
                return true;
            }
            tape.advance();
            if (!tape.isNumberUpTo(MOST_TRUST)) {
                return false;
            }
            yard.trusts[one] = tape.value;
            tape.advance();
            return true;
        }

        private boolean readLikes(Yard yard, int one) {
            if (!tape.isWord("likes")) {
                return true;
            }
            tape.advance();
            for (int thing = 0; thing < MOST_LIKES; thing++) {
                if (thing > 0 && tape.token != Tape.NUMBER) {
                    return true;
                }
                if (!tape.isNumberUpTo(MOST_LIKED)) {
                    return false;
                }
                yard.makeLike(one, thing, tape.value);
                tape.advance();
            }
            return true;
        }
    }
}
