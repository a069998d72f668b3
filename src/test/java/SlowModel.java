import java.util.ArrayList;
import java.util.Arrays;
import java.util.Comparator;
import java.util.List;
import java.util.function.ToIntFunction;
import java.util.regex.Matcher;
import java.util.regex.Pattern;

/**
 * The document's promises once more, written another way than the class (kinds as classes under one another, lists,
 * sorting, exceptions, no short cuts), so that both can be asked the same and compared.
 */
final class SlowModel {
    private static final String[] NAMES = {"child", "king", "shy", "nut", "cheat", "new"};

    /** A finding on its way out of a call. */
    private static final class Finding extends RuntimeException {
        private static final long serialVersionUID = 1L;
        final int code;

        Finding(int code) {
            this.code = code;
        }
    }

    /** The place at which a text is wrong. */
    private static final class Fault extends RuntimeException {
        private static final long serialVersionUID = 1L;
        final int place;

        Fault(int place) {
            this.place = place;
        }
    }

    private static class Kind {
        int worth(int l, int thing, int n) {
            return l;
        }

        boolean agrees(int g, int s, boolean looks) {
            return g > 0;
        }

        int asks(int round) {
            return 2;
        }

        int loses() {
            return 0;
        }
    }

    private static class King extends Kind {
        @Override int worth(int l, int thing, int n) {
            return super.worth(l, thing, n) + (n == 1 ? 3 : 0);
        }

        @Override boolean agrees(int g, int s, boolean looks) {
            return g >= 3;
        }

        @Override int asks(int round) {
            return 7;
        }

        @Override int loses() {
            return 1;
        }
    }

    private static class Shy extends Kind {
        @Override boolean agrees(int g, int s, boolean looks) {
            return super.agrees(g, s, looks) && !looks;
        }

        @Override int asks(int round) {
            return round % 2 == 0 ? 1 : 0;
        }
    }

    private static final class Nut extends Kind {
        @Override int worth(int l, int thing, int n) {
            return thing == 9 ? -20 : super.worth(l, thing, n);
        }
    }

    private static final class Cheat extends King {
        @Override boolean agrees(int g, int s, boolean looks) {
            return g >= 0 && s < 20;
        }

        @Override int loses() {
            return super.loses() + 9;
        }
    }

    private static final class New extends Shy {
        @Override int worth(int l, int thing, int n) {
            return super.worth(l, thing, n) + n;
        }

        @Override boolean agrees(int g, int s, boolean looks) {
            return super.agrees(g, s, looks) && (s != 0 || g >= 2);
        }

        @Override int asks(int round) {
            return super.asks(round) + 1;
        }
    }

    private static Kind kindOf(int kind) {
        return switch (kind) {
            case 0 -> new Kind();
            case 1 -> new King();
            case 2 -> new Shy();
            case 3 -> new Nut();
            case 4 -> new Cheat();
            default -> new New();
        };
    }

    private static Class<?> classOf(int kind) {
        return kindOf(kind).getClass();
    }

    private static final class Kid {
        int kind;
        int has;
        int swapped = 0;
        int trust = 50;
        int[] likes = new int[10];

        Kid(int kind, int has) {
            this.kind = kind;
            this.has = has;
            for (int t = 0; t < 10; t++) {
                likes[t] = (7 * t) % 11;
            }
        }

        Kid copied() {
            Kid k = new Kid(kind, has);
            k.swapped = swapped;
            k.trust = trust;
            k.likes = likes.clone();
            return k;
        }
    }

    private static final class State {
        int round = 0;
        boolean looks = false;
        List<Kid> kids = new ArrayList<>();

        State copied() {
            State s = new State();
            s.round = round;
            s.looks = looks;
            for (Kid k : kids) {
                s.kids.add(k.copied());
            }
            return s;
        }

        int worth(int c, int thing) {
            int n = (int) kids.stream().filter(k -> k.has == thing).count();
            Kid k = kids.get(c);
            return kindOf(k.kind).worth(k.likes[thing], thing, n);
        }

        int glad(int c) {
            return worth(c, kids.get(c).has);
        }

        boolean agrees(int c, int thing) {
            Kid k = kids.get(c);
            return kindOf(k.kind).agrees(worth(c, thing) - glad(c), k.swapped, looks);
        }

        boolean would(int a, int b) {
            int mine = kids.get(a).has;
            int its = kids.get(b).has;
            return mine != its && agrees(a, its) && agrees(b, mine);
        }

        void swap(int a, int b) {
            int mine = kids.get(a).has;
            kids.get(a).has = kids.get(b).has;
            kids.get(b).has = mine;
            for (int c : new int[] {a, b}) {
                Kid k = kids.get(c);
                if (k.swapped < 9999) {
                    k.swapped++;
                }
                k.trust -= kindOf(k.kind).loses();
                if (k.trust < 0) {
                    k.trust = 0;
                }
            }
        }

        boolean over() {
            for (int a = 0; a < kids.size(); a++) {
                for (int b = 0; b < kids.size(); b++) {
                    if (a != b && would(a, b)) {
                        return false;
                    }
                }
            }
            return true;
        }

        void round() {
            for (int c = 0; c < kids.size(); c++) {
                Kid k = kids.get(c);
                List<Integer> others = new ArrayList<>();
                for (int o = 0; o < kids.size(); o++) {
                    if (o != c && kids.get(o).trust >= 10 && kids.get(o).has != k.has) {
                        others.add(o);
                    }
                }
                int me = c;
                others.sort(Comparator.<Integer>comparingInt(o -> -worth(me, kids.get(o).has)).thenComparing(o -> o));
                int asks = Math.min(others.size(), kindOf(k.kind).asks(round));
                for (int i = 0; i < asks; i++) {
                    if (would(c, others.get(i))) {
                        swap(c, others.get(i));
                        break;
                    }
                }
            }
            round++;
        }

        State on(int n) {
            State s = copied();
            for (int i = 0; i < n; i++) {
                s.round();
            }
            return s;
        }

        int sum(ToIntFunction<Kid> f) {
            return kids.stream().mapToInt(f).sum();
        }

        int gladOfAll() {
            int all = 0;
            for (int c = 0; c < kids.size(); c++) {
                all += glad(c);
            }
            return all;
        }

        int held() {
            int set = 0;
            for (Kid k : kids) {
                set |= 1 << k.has;
            }
            return set;
        }
    }

    private record Token(char type, String text, int place) { }

    private State state = new State();
    private State kept = null;
    private String tape = "";
    private final long[][] sheets = new long[4][];
    private final int[] bits = new int[4];
    private final int[] findings = new int[7];

    int children() {
        return state.kids.size();
    }

    long ask(String name, long[] a) {
        try {
            return answer(name, a);
        } catch (Finding f) {
            findings[-1000000001 - f.code]++;
            return f.code;
        }
    }

    private static void beyondUnless(boolean is) {
        if (!is) {
            throw new Finding(Check.BEYOND);
        }
    }

    private static void within(long v, long least, long most) {
        beyondUnless(least <= v && v <= most);
    }

    private Kid kid(long c) {
        within(c, 0, children() - 1);
        return state.kids.get((int) c);
    }

    private long answer(String name, long[] a) {
        int p = a.length > 0 ? (int) a[0] : 0;
        int q = a.length > 1 ? (int) a[1] : 0;
        int r = a.length > 2 ? (int) a[2] : 0;
        switch (name) {
            case "teacher": {
                within(p, 0, 1);
                int was = state.looks ? 1 : 0;
                state.looks = p == 1;
                return was;
            }
            case "now": {
                within(p, 0, 5);
                return new int[] {state.round, state.looks ? 1 : 0, state.held(), state.gladOfAll(),
                    state.over() ? 1 : 0, state.sum(k -> k.swapped)}[p];
            }
            case "who": {
                within(p, 0, 9);
                int set = 0;
                for (int c = 0; c < children(); c++) {
                    set += state.kids.get(c).has == p ? 1 << c : 0;
                }
                return set;
            }
            case "child": {
                within(p, 0, 5);
                within(q, 0, 9);
                if (children() == 8) {
                    throw new Finding(Check.FULL);
                }
                state.kids.add(new Kid(p, q));
                return children() - 1;
            }
            case "of": {
                Kid k = kid(p);
                within(q, 0, 6);
                return new int[] {k.kind, k.has, k.swapped, k.trust, state.glad(p), kindOf(k.kind).asks(state.round),
                    kindOf(k.kind).loses()}[q];
            }
            case "set": return set(kid(p), q, r);
            case "likes": {
                Kid k = kid(p);
                within(q, 0, 9);
                within(r, 0, 20);
                int was = k.likes[q];
                k.likes[q] = r;
                return was;
            }
            case "worth": {
                kid(p);
                within(q, 0, 9);
                return state.worth(p, q);
            }
            case "agrees": {
                kid(p);
                within(q, 0, 9);
                return state.agrees(p, q) ? 1 : 0;
            }
            case "turn": {
                Kid k = kid(p);
                within(q, 0, 5);
                int was = k.kind;
                k.kind = q;
                return was;
            }
            case "as": {
                Kid k = kid(p);
                within(q, 0, 5);
                if (!classOf(q).isAssignableFrom(classOf(k.kind))) {
                    throw new Finding(Check.KIND);
                }
                return k.trust;
            }
            case "swap": {
                kid(p);
                kid(q);
                beyondUnless(p != q);
                state.swap(p, q);
                return state.glad(p);
            }
            case "mates": {
                kid(p);
                int set = 0;
                for (int o = 0; o < children(); o++) {
                    set += o != p && state.would(p, o) ? 1 << o : 0;
                }
                return set;
            }
            case "ring": return ring();
            case "rounds": {
                within(p, 1, 60);
                if (state.round + p > 99999) {
                    throw new Finding(Check.STATE);
                }
                state = state.on(p);
                return state.sum(k -> k.swapped);
            }
            case "on": {
                kid(p);
                within(q, 0, 100);
                within(r, 0, 3);
                State s = state.on(q);
                Kid k = s.kids.get(p);
                return new int[] {k.has, k.swapped, k.trust, s.glad(p)}[r];
            }
            case "glad": {
                within(p, 0, 100);
                return state.on(p).gladOfAll();
            }
            case "gets": {
                kid(p);
                within(q, 0, 9);
                return firstOn(s -> s.kids.get(p).has == q ? 1 : 0);
            }
            case "over": return firstOn(s -> s.over() ? 1 : 0);
            default: return best(name, a, p, q, r);
        }
    }

    private long set(Kid k, int what, int v) {
        within(what, 1, 3);
        within(v, 0, new int[] {0, 9, 9999, 99}[what]);
        int was = new int[] {0, k.has, k.swapped, k.trust}[what];
        k.has = what == 1 ? v : k.has;
        k.swapped = what == 2 ? v : k.swapped;
        k.trust = what == 3 ? v : k.trust;
        return was;
    }

    private long ring() {
        int n = children();
        for (int code = 0; code < 1000; code++) {
            int a = code / 100;
            int b = code / 10 % 10;
            int c = code % 10;
            if (a >= n || b >= n || c >= n || a == b || b == c || a == c) {
                continue;
            }
            int x = state.kids.get(a).has;
            int y = state.kids.get(b).has;
            int z = state.kids.get(c).has;
            if (x != y && y != z && x != z && state.agrees(a, y) && state.agrees(b, z) && state.agrees(c, x)) {
                return code;
            }
        }
        throw new Finding(Check.NONE);
    }

    private long firstOn(ToIntFunction<State> is) {
        for (int n = 0; n <= 100; n++) {
            if (is.applyAsInt(state.on(n)) == 1) {
                return n;
            }
        }
        throw new Finding(Check.NONE);
    }

    /** The index of the greatest of the numbers that are there (null: left out), of several the least. */
    private static int greatest(Integer[] of) {
        Integer best = null;
        for (int i = of.length - 1; i >= 0; i--) {
            if (of[i] != null && (best == null || of[i] >= of[best])) {
                best = i;
            }
        }
        if (best == null) {
            throw new Finding(Check.NONE);
        }
        return best;
    }

    private long best(String name, long[] a, int p, int q, int r) {
        switch (name) {
            case "first": {
                kid(p);
                within(q, 0, 40);
                Integer[] of = new Integer[children()];
                for (int o = 0; o < of.length; o++) {
                    State s = state.copied();
                    if (o != p) {
                        s.swap(p, o);
                        of[o] = s.on(q).glad(p);
                    }
                }
                return greatest(of);
            }
            case "bring": {
                kid(p);
                within(q, 0, 40);
                Integer[] of = new Integer[10];
                for (int t = 0; t < 10; t++) {
                    State s = state.copied();
                    s.kids.get(p).has = t;
                    of[t] = s.on(q).glad(p);
                }
                return greatest(of);
            }
            case "kind": {
                kid(p);
                within(q, 0, 40);
                Integer[] of = new Integer[6];
                for (int kind = 0; kind < 6; kind++) {
                    State s = state.copied();
                    s.kids.get(p).kind = kind;
                    Kid then = s.on(q).kids.get(p);
                    of[kind] = then.likes[then.has];
                }
                return greatest(of);
            }
            case "trust": {
                kid(p);
                within(q, 0, 40);
                within(r, -20, 40);
                for (int t = 0; t < 100; t++) {
                    State s = state.copied();
                    s.kids.get(p).trust = t;
                    if (s.on(q).glad(p) >= r) {
                        return t;
                    }
                }
                throw new Finding(Check.NONE);
            }
            case "away": {
                within(p, 0, 40);
                Integer[] of = new Integer[children()];
                for (int c = 0; c < of.length; c++) {
                    State s = state.copied();
                    s.kids.get(c).trust = 0;
                    of[c] = s.on(p).gladOfAll();
                }
                return greatest(of);
            }
            case "winner": {
                within(p, 0, 100);
                State s = state.on(p);
                Integer[] of = new Integer[children()];
                for (int c = 0; c < of.length; c++) {
                    of[c] = s.glad(c) - state.glad(c);
                }
                return greatest(of);
            }
            default: return paper(name, a, p, q, r);
        }
    }

    private long paper(String name, long[] a, int p, int q, int r) {
        switch (name) {
            case "feed": {
                within(q, 1, 4);
                if (tape.length() + q > 120) {
                    throw new Finding(Check.FULL);
                }
                String more = "";
                for (int i = 0; i < q; i++) {
                    more = (char) (p >>> (8 * i) & 255) + more;
                }
                tape += more;
                return tape.length();
            }
            case "wipe": {
                int had = tape.length();
                tape = "";
                return had;
            }
            case "yard": return yard();
            case "sheet": {
                within(p, 0, 3);
                beyondUnless(List.of(0, 8, 16, 64).contains(q));
                if (r < 0) {
                    throw new Finding(Check.SIZE);
                }
                within(r, 0, 40);
                bits[p] = q;
                sheets[p] = q == 0 ? null : new long[r];
                return q == 0 ? 0 : r;
            }
            case "write": {
                within(p, 0, 3);
                present(p);
                within(q, 0, sheets[p].length - 1);
                long was = sheets[p][q];
                int off = 64 - bits[p];
                sheets[p][q] = a[2] << off >> off;
                return was;
            }
            case "copy": return copied(p, q, r, (int) a[3], (int) a[4]);
            case "lays": {
                within(p, 0, 3);
                present(p);
                Kid k = kid(q);
                int came = 0;
                for (int i = 0; i < Math.min(10, sheets[p].length); i++) {
                    if (sheets[p][i] >= 0 && sheets[p][i] <= 20) {
                        k.likes[i] = (int) sheets[p][i];
                        came++;
                    }
                }
                return came;
            }
            case "book": {
                within(p, 0, 3);
                present(p);
                kid(q);
                for (int i = 0; i < sheets[p].length; i++) {
                    sheets[p][i] = state.on(i).kids.get(q).has;
                }
                return sheets[p].length;
            }
            case "read": {
                within(p, 0, 3);
                present(p);
                kid(q);
                kid(r);
                beyondUnless(q != r);
                return readPairs(sheets[p], q, r);
            }
            default: return images(name, p);
        }
    }

    private void present(int s) {
        if (sheets[s] == null) {
            throw new Finding(Check.MISSING);
        }
    }

    private long copied(int s, int from, int t, int to, int n) {
        within(s, 0, 3);
        within(t, 0, 3);
        present(s);
        present(t);
        if (bits[s] != bits[t]) {
            throw new Finding(Check.KIND);
        }
        beyondUnless(from >= 0 && to >= 0 && n >= 0);
        beyondUnless((long) from + n <= sheets[s].length && (long) to + n <= sheets[t].length);
        long[] were = Arrays.copyOfRange(sheets[s], from, from + n);
        for (int i = 0; i < n; i++) {
            sheets[t][to + i] = were[i];
        }
        return n;
    }

    private long readPairs(long[] sheet, int child, int other) {
        int pairs = 0;
        for (int pair = 0; pair < 36; pair++) {
            State s = state.copied();
            s.kids.get(child).kind = pair / 6;
            s.kids.get(other).kind = pair % 6;
            boolean same = true;
            for (long v : sheet) {
                same &= v == s.kids.get(child).has;
                s.round();
            }
            pairs += same ? 1 : 0;
        }
        return pairs;
    }

    private long images(String name, int p) {
        switch (name) {
            case "image": {
                kept = state.copied();
                return 1;
            }
            case "undo": {
                if (kept == null) {
                    throw new Finding(Check.NONE);
                }
                state = kept.copied();
                return children();
            }
            case "tear": {
                int was = kept == null ? 0 : 1;
                kept = null;
                return was;
            }
            case "count": {
                within(p, 0, 3);
                return new int[] {children(), tape.length(), state.sum(k -> k.trust),
                    10 - Integer.bitCount(state.held())}[p];
            }
            case "status": {
                within(p, -1, 6);
                return p == -1 ? Arrays.stream(findings).sum() : findings[p];
            }
            default: throw new IllegalArgumentException(name);
        }
    }

    private long yard() {
        String was = tape;
        tape = "";
        try {
            State s = state.copied();
            int items = items(new ArrayList<>(tokens(was)), s);
            state = s;
            return items;
        } catch (Fault f) {
            return -1 - f.place;
        }
    }

    /** All tokens, a byte that begins none as one of type ?, and the end as one of type $. */
    private static List<Token> tokens(String text) {
        List<Token> all = new ArrayList<>();
        Matcher m = Pattern.compile("(?s)( +)|([a-z]+)|([0-9]+)|(;)|(.)").matcher(text);
        while (m.find()) {
            for (int g = 2; g <= 5; g++) {
                if (m.group(g) != null) {
                    all.add(new Token("##wn;?".charAt(g), m.group(g), m.start()));
                }
            }
        }
        all.add(new Token('$', "", text.length()));
        return all;
    }

    private static int items(List<Token> left, State s) {
        int items = 0;
        do {
            item(left, s);
            items++;
        } while (take(left, ";$").type() == ';');
        return items;
    }

    private static Token take(List<Token> left, String types) {
        Token t = left.remove(0);
        if (types.indexOf(t.type()) < 0) {
            throw new Fault(t.place());
        }
        return t;
    }

    private static int number(List<Token> left, int most) {
        Token t = take(left, "n");
        java.math.BigInteger v = new java.math.BigInteger(t.text());
        if (v.compareTo(java.math.BigInteger.valueOf(Math.min(most, 999))) > 0) {
            throw new Fault(t.place());
        }
        return v.intValue();
    }

    private static void item(List<Token> left, State s) {
        Token word = take(left, "w");
        int kind = Arrays.asList(NAMES).indexOf(word.text());
        if (word.text().equals("teacher") || word.text().equals("none")) {
            s.looks = word.text().equals("teacher");
        } else if (word.text().equals("swap")) {
            int a = number(left, s.kids.size() - 1);
            int place = left.get(0).place();
            int b = number(left, s.kids.size() - 1);
            if (a == b) {
                throw new Fault(place);
            }
            s.swap(a, b);
        } else if (kind >= 0 && s.kids.size() < 8) {
            Kid k = new Kid(kind, number(left, 9));
            s.kids.add(k);
            if (left.get(0).text().equals("trust")) {
                left.remove(0);
                k.trust = number(left, 99);
            }
            if (left.get(0).text().equals("likes")) {
                left.remove(0);
                int t = 0;
                do {
                    k.likes[t] = number(left, 20);
                    t++;
                } while (t < 4 && left.get(0).type() == 'n');
            }
        } else {
            throw new Fault(word.place());
        }
    }
}
