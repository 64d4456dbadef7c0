import java.lang.reflect.Method;
import java.nio.charset.StandardCharsets;
import java.nio.file.Files;
import java.nio.file.Path;
import java.util.HashMap;
import java.util.List;
import java.util.Map;
import java.util.regex.Matcher;
import java.util.regex.Pattern;

/**
 * Calls told as text, each with the answer that is due, on an object of PaperSky.
 * A line is one of: "a sentence (what follows shows it); # a remark; new; letters TEXT;
 * tell TEXT = answer (letters, then sky); [TIMES x] call(..) = answer, several with two blanks between.
 */
final class Script {
    private static final int MOST_CALLS = 512;
    private static final Pattern CALL = Pattern.compile("(?:(\\d+) x )?(\\w+)\\(([-\\d, ]*)\\) = (-?\\w+)");
    private static final Map<String, Integer> NAMES = Map.of("NONE", -1000000, "BAD", -1000001, "STATE", -1000002,
        "FULL", -1000003, "NULL", -1000011, "PLACE", -1000012, "KIND", -1000013, "SIZE", -1000014, "STORE", -1000015);

    private final Check check;
    private final Map<String, Method> face = new HashMap<>();
    private PaperSky x = new PaperSky();
    private int calls = 0;
    private String sentence = "";

    Script(Check check) {
        this.check = check;
        for (Method m : PaperSky.class.getMethods()) {
            if (m.getDeclaringClass() == PaperSky.class) {
                face.put(m.getName(), m);
            }
        }
    }

    void runFile(String path) throws Exception {
        List<String> lines = Files.readAllLines(Path.of(path), StandardCharsets.US_ASCII);
        for (int i = 0; i < lines.size(); i++) {
            runLine(path + " " + (i + 1), lines.get(i).strip());
        }
    }

    private void runLine(String where, String line) throws Exception {
        if (line.isEmpty() || line.startsWith("#")) {
            return;
        }
        if (line.startsWith("\"")) {
            sentence = line;
        } else if (line.equals("new")) {
            renew();
        } else if (line.startsWith("letters ")) {
            letters(where, line.substring(8));
        } else if (line.startsWith("tell ")) {
            int at = line.lastIndexOf(" = ");
            letters(where, line.substring(5, at));
            call(where, "sky() " + line.substring(at + 1));
        } else {
            for (String one : line.split(" {2,}")) {
                call(where, one);
            }
        }
    }

    private void renew() {
        x = new PaperSky();
        calls = 0;
    }

    void letters(String where, String text) throws Exception {
        int before = x.count(7);
        calls++;
        for (int i = 0; i < text.length(); i++) {
            call(where, "feed(" + (int) text.charAt(i) + ") = " + (before + i + 1));
        }
    }

    /** One call as told; what is told wrongly is an error of the test, not of the class. */
    void call(String where, String told) throws Exception {
        Matcher m = CALL.matcher(told);
        if (!m.matches()) {
            throw new IllegalArgumentException(where + ": no call: " + told);
        }
        int times = m.group(1) == null ? 1 : Integer.parseInt(m.group(1));
        for (int i = 0; i < times; i++) {
            check.due(where + " " + sentence + " " + told, answer(where, m.group(2), m.group(3)), number(m.group(4)));
        }
    }

    private long answer(String where, String name, String told) throws Exception {
        calls++;
        if (calls > MOST_CALLS) {
            throw new IllegalArgumentException(where + ": more calls than an object is used for");
        }
        String[] parts = told.isBlank() ? new String[0] : told.split(",");
        Method m = face.get(name);
        if (m == null || m.getParameterCount() != parts.length) {
            throw new IllegalArgumentException(where + ": no such call: " + name + "(" + told + ")");
        }
        Object[] arguments = new Object[parts.length];
        for (int i = 0; i < parts.length; i++) {
            arguments[i] = Integer.parseInt(parts[i].strip());
        }
        return ((Number) m.invoke(x, arguments)).longValue();
    }

    private static long number(String told) {
        return NAMES.containsKey(told) ? NAMES.get(told) : Long.parseLong(told);
    }
}
