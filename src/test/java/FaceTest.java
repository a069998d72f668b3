import java.lang.reflect.Constructor;
import java.lang.reflect.Field;
import java.lang.reflect.Method;
import java.lang.reflect.Modifier;
import java.nio.file.Files;
import java.nio.file.Path;
import java.util.ArrayList;
import java.util.Arrays;
import java.util.HashSet;
import java.util.List;
import java.util.Set;
import java.util.TreeSet;
import java.util.regex.Matcher;
import java.util.regex.Pattern;

/** The public face as the document has it, and those rules of LANGUAGE.md that can be seen from outside or by words. */
public final class FaceTest {
    private static final String FACE = """
        int teacher(int) int now(int) int who(int) int child(int,int) int of(int,int) int set(int,int,int)
        int likes(int,int,int) int worth(int,int) int agrees(int,int) int turn(int,int) int as(int,int)
        int swap(int,int) int mates(int) int ring() int rounds(int) int on(int,int,int) int glad(int)
        int gets(int,int) int over() int first(int,int) int bring(int,int) int kind(int,int)
        int trust(int,int,int) int away(int) int winner(int) int feed(int,int) int wipe() int yard()
        int sheet(int,int,int) long write(int,int,long) int copy(int,int,int,int,int) int lays(int,int)
        int book(int,int) int read(int,int,int) int image() int undo() int tear() int count(int) int status(int)
        """;
    private static final Check CHECK = new Check();

    public static void main(String[] args) throws Exception {
        publicFace();
        insideClasses();
        source(Files.readString(Path.of("src/main/java/BreakSwaps.java")));
        CHECK.end();
    }

    private static void publicFace() {
        Class<?> c = BreakSwaps.class;
        CHECK.holds("the class is public", Modifier.isPublic(c.getModifiers()));
        CHECK.holds("the class is final", Modifier.isFinal(c.getModifiers()));
        Constructor<?>[] made = c.getDeclaredConstructors();
        CHECK.holds("one public constructor without arguments",
            made.length == 1 && Modifier.isPublic(made[0].getModifiers()) && made[0].getParameterCount() == 0);
        Set<String> want = new TreeSet<>(Arrays.asList(FACE.trim().split("(?<=\\))\\s+")));
        Set<String> got = new TreeSet<>();
        Set<String> hidden = new HashSet<>();
        for (Method m : c.getDeclaredMethods()) {
            if (Modifier.isPrivate(m.getModifiers())) {
                hidden.add(m.getName());
            } else {
                got.add(signature(m));
            }
        }
        CHECK.due("methods of the face", want.size(), 39);
        CHECK.holds("the face is " + got, got.equals(want));
        for (Method m : c.getDeclaredMethods()) {
            CHECK.holds("no private method is named as the public " + m.getName(),
                Modifier.isPrivate(m.getModifiers()) || !hidden.contains(m.getName()));
        }
        for (Field f : c.getDeclaredFields()) {
            CHECK.holds("field " + f.getName() + " is private", Modifier.isPrivate(f.getModifiers()));
        }
    }

    private static String signature(Method m) {
        List<String> types = new ArrayList<>();
        for (Class<?> t : m.getParameterTypes()) {
            types.add(t.getName());
        }
        return m.getReturnType().getName() + " " + m.getName() + "(" + String.join(",", types) + ")";
    }

    private static void insideClasses() {
        Set<String> publics = new HashSet<>();
        for (Method m : BreakSwaps.class.getMethods()) {
            publics.add(m.getName());
        }
        List<Class<?>> all = new ArrayList<>(Arrays.asList(BreakSwaps.class.getDeclaredClasses()));
        CHECK.holds("at most twelve classes", all.size() < 12);
        for (Class<?> c : all) {
            CHECK.holds(c + " is static", Modifier.isStatic(c.getModifiers()));
            for (Method m : c.getDeclaredMethods()) {
                CHECK.holds(m + " is not named as a call of the face", !publics.contains(m.getName()));
            }
        }
        all.add(BreakSwaps.class);
        for (Class<?> c : all) {
            int fields = 0;
            for (Field f : c.getDeclaredFields()) {
                boolean isStatic = Modifier.isStatic(f.getModifiers());
                fields += isStatic ? 0 : 1;
                CHECK.holds(f + " is final if it is static", !isStatic || Modifier.isFinal(f.getModifiers()));
            }
            CHECK.holds(c + " has some twenty fields at most", fields <= 20);
            for (Method m : c.getDeclaredMethods()) {
                CHECK.holds(m + " takes at most seven", m.getParameterCount() <= 7);
            }
        }
    }

    private static void source(String text) {
        String code = text.replaceAll("(?s)/\\*.*?\\*/", "").replaceAll("//[^\n]*", "");
        for (String word : List.of("throw", "throws", "try", "catch", "finally", "synchronized", "assert", "package",
            "import", "System.out", "currentTimeMillis", "nanoTime", "random", "Random", "Thread", "Object", "Exact",
            "hashCode", "toString", "equals", "->", "::", "float", "double", "native", "volatile", "transient")) {
            String pattern = Character.isLetter(word.charAt(0)) ? "\\b" + Pattern.quote(word) + "\\b" : Pattern.quote(word);
            CHECK.holds("the source is without " + word, !Pattern.compile(pattern).matcher(code).find());
        }
        CHECK.holds("only signs 1 to 126", text.chars().allMatch(ch -> ch == '\n' || ch >= ' ' && ch < 127));
        Matcher library = Pattern.compile("\\b(System|Math|Integer|Long|Arrays)\\.(\\w+)").matcher(code);
        while (library.find()) {
            CHECK.holds("the library's " + library.group(),
                List.of("System.arraycopy", "Math.min", "Math.max", "Integer.bitCount").contains(library.group()));
        }
        shortMethods(code);
    }

    /** A method begins with a head at one or two levels and ends with a brace at the same one. */
    private static void shortMethods(String code) {
        String[] lines = code.split("\n");
        for (int from = 0; from < lines.length; from++) {
            Matcher head = Pattern.compile("^( {4}| {8})\\w[^=;]*\\) \\{$").matcher(lines[from]);
            if (head.find()) {
                int to = from;
                while (to < lines.length && !lines[to].equals(head.group(1) + "}")) {
                    to++;
                }
                CHECK.holds("at most sixty lines: " + lines[from].trim(), to - from < 60);
            }
        }
    }
}
