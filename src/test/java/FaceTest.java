import java.lang.reflect.Constructor;
import java.lang.reflect.Field;
import java.lang.reflect.Method;
import java.lang.reflect.Modifier;
import java.nio.charset.StandardCharsets;
import java.nio.file.Files;
import java.nio.file.Path;
import java.util.Arrays;
import java.util.Set;
import java.util.TreeSet;
import java.util.regex.Matcher;
import java.util.regex.Pattern;

/** The public face, and those rules of LANGUAGE.md that a look at the file can tell. */
public final class FaceTest {
    private static final Check C = new Check();
    private static final String FACE = "above(5) ahead(3) as(2) ash(5) ask(2) burn(2) copy(5) count(1) down(1)"
        + " drawn(3) drop(1) fault(0) feed(1) hours(1) image(1) kept(2) kind(1) land(1) lasts(1) meet(2)"
        + " office(2) over(2) petition(4) restore(1) row(3) rule(2) send(3) set(3) sky(0) status(0) trace(1)"
        + " turned(5) undo(0) who(5) wind(2)";
    private static final Set<Class<?>> CONSTANTS = Set.of(int.class, long.class, boolean.class, char.class,
        String.class, int[].class, long[].class, char[].class, byte[].class);

    public static void main(String[] args) throws Exception {
        face();
        for (Class<?> inner : PaperSky.class.getDeclaredClasses()) {
            C.isTrue(inner + " is static", Modifier.isStatic(inner.getModifiers()));
            C.isTrue(inner + " is not public", !Modifier.isPublic(inner.getModifiers()) && !Modifier.isProtected(inner.getModifiers()));
            sizes(inner);
        }
        sizes(PaperSky.class);
        C.isTrue("twelve classes", PaperSky.class.getDeclaredClasses().length <= 11);
        source();
        C.end("FaceTest");
    }

    private static void face() {
        C.isTrue("public final", PaperSky.class.getModifiers() == (Modifier.PUBLIC | Modifier.FINAL));
        Set<String> seen = new TreeSet<>();
        for (Method m : PaperSky.class.getDeclaredMethods()) {
            if (Modifier.isPublic(m.getModifiers())) {
                seen.add(m.getName() + "(" + m.getParameterCount() + ")");
                C.isTrue(m + " takes ints", Arrays.stream(m.getParameterTypes()).allMatch(t -> t == int.class));
                C.isTrue(m + " answers", m.getReturnType() == (m.getName().equals("turned") ? long.class : int.class));
                C.isTrue(m + " is no static", !Modifier.isStatic(m.getModifiers()));
            } else {
                C.isTrue(m + " is private", Modifier.isPrivate(m.getModifiers()));
            }
        }
        String got = String.join(" ", seen);
        C.isTrue("the face: " + got, got.equals(FACE));
        Constructor<?>[] made = PaperSky.class.getDeclaredConstructors();
        C.isTrue("one constructor", made.length == 1 && Modifier.isPublic(made[0].getModifiers()) && made[0].getParameterCount() == 0);
        Set<String> constants = new TreeSet<>();
        for (Field f : PaperSky.class.getDeclaredFields()) {
            if (!Modifier.isPrivate(f.getModifiers())) {
                constants.add(f.getName());
            }
        }
        C.isTrue("constants " + constants, constants.equals(Set.of("NONE", "BAD", "STATE", "FULL")));
        C.due("NONE", PaperSky.NONE, -1000000);
        C.due("BAD", PaperSky.BAD, -1000001);
        C.due("STATE", PaperSky.STATE, -1000002);
        C.due("FULL", PaperSky.FULL, -1000003);
    }

    private static void sizes(Class<?> one) {
        int fields = 0;
        for (Field f : one.getDeclaredFields()) {
            if (Modifier.isStatic(f.getModifiers())) {
                C.isTrue(f + " is a constant", Modifier.isFinal(f.getModifiers()) && CONSTANTS.contains(f.getType()));
            } else {
                fields++;
            }
        }
        C.isTrue(one + " has twenty fields", fields <= 20);
        for (Method m : one.getDeclaredMethods()) {
            C.isTrue(m + " takes seven", m.getParameterCount() <= 7);
            boolean own = one == PaperSky.class && Modifier.isPublic(m.getModifiers());
            C.isTrue(m + " has a name of its own", own || !(" " + FACE).contains(" " + m.getName() + "("));
        }
    }

    private static void source() throws Exception {
        String text = Files.readString(Path.of("src/main/java/PaperSky.java"), StandardCharsets.US_ASCII);
        String code = text.replaceAll("(?s)/\\*.*?\\*/", "").replaceAll("//[^\n]*", "");
        String[] none = {"throw", "throws", "try", "catch", "finally", "synchronized", "assert", "package", "native",
            "volatile", "transient", "record", "Object", "Thread", "System\\.(?!arraycopy)\\w+", "\\w+Exact",
            "equals", "hashCode", "toString", "goto", "double", "float"};
        for (String word : none) {
            C.isTrue("no " + word, !Pattern.compile("\\b" + word + "\\b").matcher(code).find());
        }
        C.isTrue("no lambda, no method reference", !code.contains("->") && !code.contains("::"));
        C.isTrue("no @", !code.contains("@"));
        Matcher imports = Pattern.compile("import [^;]+;").matcher(code);
        while (imports.find()) {
            C.isTrue(imports.group(), imports.group().equals("import java.util.Arrays;"));
        }
        headings(text);
        lengths(text);
    }

    /** The face in the document's order, with what its interface says ahead of some calls. */
    private static void headings(String text) {
        StringBuilder order = new StringBuilder();
        Matcher m = Pattern.compile("(?m)^    (?:// ---- ([a-z ]+)|public (?:int|long) (\\w+)\\(.*)$").matcher(text);
        while (m.find()) {
            order.append(m.group(1) != null ? "[" + m.group(1) + "] " : m.group(2) + " ");
        }
        C.isTrue("the order of the face: " + order, order.toString().startsWith("[rows] row set copy drop"
            + " [what is told] feed sky fault undo [what is done] hours burn send wind office land"
            + " [foretold] ahead down meet over above petition ash who rule lasts kept turned drawn image restore"
            + " [asked] kind as ask trace count status "));
    }

    /** A method opens at one or two levels of indent, and closes at the same one. */
    private static void lengths(String text) {
        String[] lines = text.split("\n");
        for (int i = 0; i < lines.length; i++) {
            Matcher open = Pattern.compile("^((?: {4}){1,2})[A-Za-z].*\\) \\{$").matcher(lines[i]);
            if (!open.find()) {
                continue;
            }
            int end = i;
            while (end < lines.length && !lines[end].equals(open.group(1) + "}")) {
                end++;
            }
            C.isTrue("line " + (i + 1) + " opens a short method", end - i < 60);
        }
    }
}
