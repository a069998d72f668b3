import java.io.IOException;
import java.lang.reflect.Method;
import java.lang.reflect.Modifier;
import java.nio.file.DirectoryStream;
import java.nio.file.Files;
import java.nio.file.Path;
import java.util.ArrayList;
import java.util.List;
import java.util.regex.Matcher;
import java.util.regex.Pattern;

/** README.md says how the class is used: each of its rows is asked, so that it can't say what isn't so. */
public final class ReadmeTest {
    private static final Path README = Path.of("README.md");
    private static final Path TESTS = Path.of("src/test/java");
    private static final Pattern ROW = Pattern.compile("x\\.(\\w+\\(.*\\)); +// (-?\\d+)(:.*)?");
    private static final Pattern HEX = Pattern.compile("0x([0-9a-f]+)");
    private static final Check CHECK = new Check();

    public static void main(String[] args) throws IOException {
        String readme = Files.readString(README);
        example(block(readme, "java"));
        text(block(readme, "text"));
        findings(readme);
        calls(readme);
        tests(readme);
        CHECK.end();
    }

    private static List<String> block(String readme, String language) {
        String[] parts = readme.split("```" + language + "\n", -1);
        CHECK.due("README.md: blocks of " + language, parts.length - 1, 1);
        return parts.length < 2 ? List.of() : List.of(parts[1].substring(0, parts[1].indexOf("```")).split("\n"));
    }

    private static void example(List<String> lines) {
        BreakSwaps x = new BreakSwaps();
        int rows = 0;
        for (String line : lines) {
            Matcher row = ROW.matcher(line);
            if (row.matches()) {
                rows++;
                CHECK.due("README.md: " + line, Calls.ask(x, withoutHex(row.group(1))), Long.parseLong(row.group(2)));
            } else {
                CHECK.holds("README.md: no answer stands behind: " + line, !line.startsWith("x."));
            }
        }
        CHECK.holds("README.md: rows of the example", rows > 0);
    }

    private static String withoutHex(String call) {
        return HEX.matcher(call).replaceAll(hex -> String.valueOf(Integer.parseUnsignedInt(hex.group(1), 16)));
    }

    private static void text(List<String> lines) {
        String text = String.join("\n", lines);
        CHECK.due("README.md: " + text, Check.yard(new BreakSwaps(), text), 4);
    }

    /** The document's findings follow one another, so their order gives their numbers. */
    private static void findings(String readme) {
        String[] names = {"BEYOND", "FULL", "KIND", "NONE", "STATE", "MISSING", "SIZE"};
        for (int f = 0; f < names.length; f++) {
            String row = "| " + (Check.BEYOND - f) + " | " + names[f] + " |";
            CHECK.holds("README.md has " + row, readme.contains(row));
        }
    }

    /** Each call of the face, with as many arguments as it takes, and no other. */
    private static void calls(String readme) {
        List<String> named = new ArrayList<>();
        Matcher call = Pattern.compile("`(\\w+)\\(([a-z, ]*)\\)`").matcher(readme);
        while (call.find()) {
            int arguments = call.group(2).isEmpty() ? 0 : call.group(2).split(", ").length;
            named.add(call.group(1) + " of " + arguments);
        }
        int face = 0;
        for (Method m : BreakSwaps.class.getDeclaredMethods()) {
            if (Modifier.isPublic(m.getModifiers())) {
                face++;
                String told = m.getName() + " of " + m.getParameterCount();
                CHECK.holds("README.md names " + told, named.contains(told));
            }
        }
        CHECK.due("README.md: calls named", named.stream().distinct().count(), face);
    }

    private static void tests(String readme) throws IOException {
        try (DirectoryStream<Path> files = Files.newDirectoryStream(TESTS, "*Test.java")) {
            for (Path file : files) {
                String name = file.getFileName().toString().replace(".java", "");
                CHECK.holds("README.md names " + name, Pattern.compile("\\b" + name + "\\b").matcher(readme).find());
            }
        }
    }
}
