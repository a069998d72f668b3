import java.lang.reflect.Method;
import java.util.ArrayList;
import java.util.Comparator;
import java.util.List;
import java.util.Random;

/** Random runs of calls (the same ones each time), asked of the class and of the slow model. */
public final class ModelTest {
    private static final int RUNS = 400;
    private static final int CALLS = 512;
    private static final String[] WORDS = {"child", "king", "shy", "nut", "cheat", "new", "teacher", "none", "swap",
        "trust", "likes", "childs", "x"};

    private final Random random;
    private final Check check;
    private final int run;
    private final BreakSwaps x = new BreakSwaps();
    private final SlowModel model = new SlowModel();
    private int calls = 0;

    private ModelTest(int run, Check check) {
        this.run = run;
        this.check = check;
        this.random = new Random(run);
    }

    public static void main(String[] args) throws Exception {
        Check check = new Check();
        for (int run = 0; run < RUNS && check.isRight(); run++) {
            new ModelTest(run, check).go();
        }
        check.end();
    }

    private void go() throws Exception {
        List<Method> face = new ArrayList<>();
        for (Method m : BreakSwaps.class.getMethods()) {
            if (m.getDeclaringClass() == BreakSwaps.class) {
                face.add(m);
            }
        }
        face.sort(Comparator.comparing(Method::getName));
        boolean isNoisy = random.nextInt(3) == 0;
        int first = random.nextInt(9);
        for (int c = 0; c < first; c++) {
            ask(method(face, "child"), new long[] {random.nextInt(6), random.nextInt(10)});
        }
        while (calls < CALLS && check.isRight()) {
            if (random.nextInt(12) == 0) {
                text(face);
            } else if (random.nextInt(4) == 0) {
                // Many likes and things set by chance, so that the next rounds have something to swap.
                shuffle(face);
            } else {
                Method m = face.get(random.nextInt(face.size()));
                long[] a = new long[m.getParameterCount()];
                for (int k = 0; k < a.length; k++) {
                    a[k] = argument(m.getName(), k, isNoisy);
                }
                ask(m, a);
            }
        }
    }

    private static Method method(List<Method> face, String name) {
        return face.stream().filter(m -> m.getName().equals(name)).findFirst().orElseThrow();
    }

    private void shuffle(List<Method> face) throws Exception {
        for (int c = 0; c < model.children(); c++) {
            ask(method(face, "likes"), new long[] {c, random.nextInt(10), random.nextInt(21)});
            if (random.nextInt(3) == 0) {
                ask(method(face, "set"), new long[] {c, 1, random.nextInt(10)});
            }
            if (random.nextInt(6) == 0) {
                ask(method(face, "set"), new long[] {c, 2, random.nextInt(3) * 10 + random.nextInt(2)});
            }
            if (random.nextInt(4) == 0) {
                ask(method(face, "set"), new long[] {c, 3, random.nextInt(3) == 0 ? 5 + random.nextInt(10) : 99});
            }
        }
        ask(method(face, "rounds"), new long[] {1 + random.nextInt(3)});
    }

    private void text(List<Method> face) throws Exception {
        if (random.nextInt(3) == 0) {
            ask(method(face, "undo"), new long[0]);
        }
        if (random.nextInt(5) != 0) {
            ask(method(face, "wipe"), new long[0]);
        }
        String text = randomText();
        for (int at = 0; at < text.length(); at += 4) {
            int n = Math.min(4, text.length() - at);
            int bytes = random.nextInt();
            for (int i = 0; i < n; i++) {
                bytes = bytes << 8 | text.charAt(at + i) & 255;
            }
            ask(method(face, "feed"), new long[] {bytes, n});
        }
        ask(method(face, "yard"), new long[0]);
        for (int c = 0; c < model.children(); c++) {
            ask(method(face, "of"), new long[] {c, random.nextInt(7)});
            ask(method(face, "worth"), new long[] {c, random.nextInt(4)});
        }
    }

    private String randomText() {
        StringBuilder b = new StringBuilder();
        int items = random.nextInt(5);
        for (int i = 0; i <= items; i++) {
            b.append(i == 0 ? "" : blank(0)).append(i == 0 ? "" : ";").append(blank(0)).append(randomItem());
        }
        int slips = random.nextInt(3);
        for (int i = 0; i < slips; i++) {
            slip(b);
        }
        return b.toString();
    }

    private String randomItem() {
        int sort = random.nextInt(6);
        if (sort == 0) {
            return random.nextBoolean() ? "teacher" : "none";
        }
        if (sort == 1) {
            return "swap" + blank(0) + number(Math.max(1, model.children())) + blank(1) + number(8);
        }
        StringBuilder b = new StringBuilder(WORDS[random.nextInt(6)]).append(blank(0)).append(number(10));
        if (random.nextBoolean()) {
            b.append(blank(0)).append("trust").append(blank(0)).append(number(100));
        }
        if (random.nextBoolean()) {
            b.append(blank(0)).append("likes");
            int likes = 1 + random.nextInt(random.nextInt(4) == 0 ? 5 : 4);
            for (int i = 0; i < likes; i++) {
                b.append(blank(1)).append(number(21));
            }
        }
        return b.toString();
    }

    private String blank(int least) {
        return "  ".substring(0, Math.min(2, least + random.nextInt(2)));
    }

    private String number(int below) {
        String zeros = random.nextInt(20) == 0 ? "000" : "";
        return zeros + (random.nextInt(12) == 0 ? below + random.nextInt(2) : random.nextInt(below));
    }

    private void slip(StringBuilder b) {
        int at = random.nextInt(b.length() + 1);
        switch (random.nextInt(6)) {
            case 0 -> b.setLength(at);
            case 1 -> b.insert(at, WORDS[random.nextInt(WORDS.length)]);
            case 2 -> b.insert(at, (char) random.nextInt(256));
            case 3 -> b.insert(at, " 5 ");
            case 4 -> b.insert(at, random.nextBoolean() ? ";" : "4294967296");
            default -> b.delete(at, Math.min(b.length(), at + 1 + random.nextInt(4)));
        }
    }

    /** Mostly one that may be; at times one that may not, or is at the edge. */
    private long argument(String name, int k, boolean isNoisy) {
        int[] odd = {-1, 0, 7, 8, 9, 10, 40, 41, 60, 61, 99, 100, 101, 9999, 10000, Integer.MIN_VALUE,
            Integer.MAX_VALUE, -21, -20, 20, 21};
        if (random.nextInt(isNoisy ? 6 : 60) == 0) {
            return odd[random.nextInt(odd.length)];
        }
        int child = random.nextInt(Math.max(1, model.children()));
        String sort = name + k;
        if (List.of("feed0", "write2").contains(sort)) {
            return random.nextInt(3) == 0 ? random.nextLong() : random.nextInt(25) - 2;
        }
        return switch (name) {
            case "sheet" -> new int[] {random.nextInt(4), new int[] {0, 8, 8, 16, 64}[random.nextInt(5)],
                random.nextInt(3) == 0 ? random.nextInt(43) - 1 : random.nextInt(6)}[k];
            case "write" -> new int[] {random.nextInt(4), random.nextInt(7)}[k];
            case "copy" -> new int[] {random.nextInt(4), random.nextInt(5), random.nextInt(4), random.nextInt(5),
                random.nextInt(6)}[k];
            case "lays", "book", "read" -> k == 0 ? random.nextInt(4) : child;
            case "of" -> k == 0 ? child : random.nextInt(7);
            case "set" -> new int[] {child, 1 + random.nextInt(3), random.nextInt(10)}[k];
            case "likes" -> new int[] {child, random.nextInt(10), random.nextInt(21)}[k];
            case "on" -> new int[] {child, random.nextInt(101), random.nextInt(4)}[k];
            case "trust" -> new int[] {child, random.nextInt(41), random.nextInt(30) - 5}[k];
            case "swap" -> child;
            case "child" -> random.nextInt(k == 0 ? 6 : 10);
            case "turn", "as" -> k == 0 ? child : random.nextInt(6);
            case "worth", "agrees", "gets" -> k == 0 ? child : random.nextInt(10);
            case "mates" -> child;
            case "first", "bring", "kind" -> k == 0 ? child : random.nextInt(41);
            case "away" -> random.nextInt(41);
            case "glad", "winner" -> random.nextInt(101);
            case "rounds" -> 1 + random.nextInt(4);
            case "teacher" -> random.nextInt(8) / 7;
            case "status" -> random.nextInt(9) - 1;
            case "feed" -> 1 + random.nextInt(4);
            default -> random.nextInt(7);
        };
    }

    private void ask(Method m, long[] a) throws Exception {
        if (calls == CALLS) {
            return;
        }
        calls++;
        Object[] given = new Object[a.length];
        StringBuilder call = new StringBuilder("run " + run + ": " + m.getName());
        for (int k = 0; k < a.length; k++) {
            boolean isLong = m.getParameterTypes()[k] == long.class;
            a[k] = isLong ? a[k] : (int) a[k];
            given[k] = isLong ? (Object) a[k] : (Object) (int) a[k];
            call.append(k == 0 ? "(" : ", ").append(a[k]);
        }
        long want = model.ask(m.getName(), a);
        check.due(call.append(")").toString(), ((Number) m.invoke(x, given)).longValue(), want);
    }
}
