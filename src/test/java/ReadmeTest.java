import java.io.IOException;
import java.lang.reflect.Method;
import java.lang.reflect.Modifier;
import java.nio.file.Files;
import java.nio.file.Path;
import java.util.List;
import java.util.Map;
import java.util.regex.Matcher;
import java.util.regex.Pattern;
import java.util.stream.Stream;

/** README.md: every line of its example is done and has to answer what stands behind it. */
public final class ReadmeTest {
    private static final Check CHECK = new Check("ReadmeTest");
    private static final Pattern LINE = Pattern.compile("o\\.(\\w+)\\(([-0-9, ]*)\\); +// (-?\\d+)\\b.*");

    public static void main(String[] args) throws IOException {
        List<String> page = Files.readAllLines(Path.of("README.md"));
        theExampleAnswersWhatItSays(page);
        theTablesAreWhole(page);
        CHECK.end();
    }

    private static void theExampleAnswersWhatItSays(List<String> page) {
        int from = page.indexOf("```java");
        List<String> rest = page.subList(from + 1, page.size());
        List<String> example = rest.subList(0, rest.indexOf("```"));
        CHECK.due("the first line makes the object", 1, example.get(0).equals("PileCaps o = new PileCaps();") ? 1 : 0);
        PileCaps o = new PileCaps();
        for (String line : example.subList(1, example.size())) {
            Matcher call = LINE.matcher(line);
            if (call.matches()) {
                CHECK.due(line, Long.parseLong(call.group(3)), answer(o, call.group(1), numbers(call.group(2))));
            } else {
                CHECK.due("can be read: " + line, 1, 0);
            }
        }
    }

    private static int[] numbers(String list) {
        return Stream.of(list.split(", ")).filter(n -> !n.isEmpty()).mapToInt(Integer::parseInt).toArray();
    }

    private static long answer(PileCaps o, String name, int[] n) {
        switch (name) {
            case "layer": return o.layer(n[0], n[1], n[2]);
            case "pile": return o.pile(n[0], n[1], n[2], n[3]);
            case "about": return o.about(n[0], n[1]);
            case "load": return o.load(n[0], n[1], n[2], n[3]);
            case "shares": return o.shares(n[0]);
            case "end": return o.end(n[0]);
            case "least": return o.least();
            case "drive": return o.drive(n[0], n[1], n[2]);
            case "drag": return o.drag(n[0], n[1]);
            case "number": return o.number(n[0], n[1]);
            default: return Long.MIN_VALUE;
        }
    }

    private static void theTablesAreWhole(List<String> page) throws IOException {
        for (Method m : PileCaps.class.getDeclaredMethods()) {
            if (Modifier.isPublic(m.getModifiers())) {
                CHECK.due("a row for " + m.getName(), 1, rows(page, "| `" + m.getName() + "("));
            }
        }
        try (Stream<Path> files = Files.list(Path.of("src/test/java"))) {
            for (Path file : files.filter(f -> f.toString().endsWith("Test.java")).toList()) {
                String name = file.getFileName().toString().replace(".java", "");
                CHECK.due("a row for " + name, 1, rows(page, "| " + name + " |"));
            }
        }
        for (Map.Entry<String, Integer> c : Map.of("BAD", PileCaps.BAD, "NO", PileCaps.NO, "FULL", PileCaps.FULL, "NONE",
                PileCaps.NONE).entrySet()) {
            CHECK.due("tells " + c, 1, String.join(" ", page).contains("`" + c.getKey() + "` (" + c.getValue() + ")") ? 1 : 0);
        }
    }

    private static long rows(List<String> page, String start) {
        return page.stream().filter(line -> line.startsWith(start)).count();
    }
}
