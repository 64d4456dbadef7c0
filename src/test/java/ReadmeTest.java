import java.lang.reflect.Method;
import java.lang.reflect.Modifier;
import java.nio.charset.StandardCharsets;
import java.nio.file.Files;
import java.nio.file.Path;
import java.util.List;
import java.util.regex.Matcher;
import java.util.regex.Pattern;
import java.util.stream.Collectors;
import java.util.stream.Stream;

/** README.md: its examples answer as it says, and it names every call, every test and every class inside. */
public final class ReadmeTest {
    private static final Check C = new Check();
    private static final Pattern TEXT = Pattern.compile("for \\(char c : \"(.*)\"\\.toCharArray\\(\\)\\) \\{");
    private static final Pattern CALL = Pattern.compile("x\\.(\\w+\\([-\\d, ]*\\)); +// (-?\\d+): .*");

    public static void main(String[] args) throws Exception {
        List<String> lines = Files.readAllLines(Path.of("README.md"), StandardCharsets.UTF_8);
        examples(lines);
        String page = String.join("\n", lines);
        for (Method m : PaperSky.class.getDeclaredMethods()) {
            if (Modifier.isPublic(m.getModifiers())) {
                C.due("the row of " + m.getName(), rowsOf(page, m), 1);
            }
        }
        for (Class<?> inner : PaperSky.class.getDeclaredClasses()) {
            C.isTrue("names " + inner.getSimpleName(), page.contains("| `" + inner.getSimpleName() + "` |"));
        }
        for (String test : tests()) {
            C.isTrue("names " + test, page.contains("| `" + test + "` |"));
        }
        C.end("ReadmeTest");
    }

    private static void examples(List<String> lines) throws Exception {
        Script script = new Script(C);
        int asked = 0;
        for (String line : lines) {
            Matcher text = TEXT.matcher(line.strip());
            Matcher call = CALL.matcher(line.strip());
            if (text.matches()) {
                script.letters("README.md", text.group(1));
            } else if (call.matches()) {
                script.call("README.md", call.group(1) + " = " + call.group(2));
                asked++;
            } else {
                C.isTrue("a call without an answer: " + line, !line.startsWith("x."));
            }
        }
        C.due("calls of the examples", asked, 21);
    }

    /** How many rows of the tables tell a call with as many numbers as it takes. */
    private static int rowsOf(String page, Method m) {
        Matcher row = Pattern.compile("(?m)^\\| `" + m.getName() + "\\(([^)]*)\\)` \\| \\S").matcher(page);
        int rows = 0;
        while (row.find()) {
            int numbers = row.group(1).isEmpty() ? 0 : row.group(1).split(",").length;
            rows += numbers == m.getParameterCount() ? 1 : 0;
        }
        return rows;
    }

    private static List<String> tests() throws Exception {
        try (Stream<Path> files = Files.list(Path.of("src/test/java"))) {
            return files.map(f -> f.getFileName().toString()).filter(n -> n.endsWith("Test.java"))
                .map(n -> n.substring(0, n.length() - 5)).sorted().collect(Collectors.toList());
        }
    }
}
