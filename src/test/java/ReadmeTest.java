import java.io.File;
import java.io.IOException;
import java.lang.reflect.Field;
import java.lang.reflect.InvocationTargetException;
import java.lang.reflect.Method;
import java.lang.reflect.Modifier;
import java.net.URL;
import java.net.URLClassLoader;
import java.nio.file.Files;
import java.nio.file.Path;
import java.util.ArrayList;
import java.util.List;
import java.util.Set;
import java.util.TreeSet;
import java.util.regex.Matcher;
import java.util.regex.Pattern;
import javax.tools.JavaCompiler;
import javax.tools.ToolProvider;

/** Each example in README.md compiles as it is written there, and answers what is told behind its calls. */
public final class ReadmeTest {
    private static final String README = "README.md";
    private static final String AS_WRITTEN = "ReadmeAsWritten", CHECKED = "ReadmeChecked";
    /** "statement; // answer" or "statement; // answer: why", the statement with or without "int name = ". */
    private static final Pattern ANSWERED =
        Pattern.compile("\\s*(int (\\w+) = )?([^;/]+);\\s*// (\\d+|[A-Z]+)(: .+)?");

    private static final Set<Integer> TOLD = new TreeSet<>(), ASKED = new TreeSet<>();
    private static int wrong = 0;

    private static void fail(int line, String why) {
        wrong++;
        System.out.println(README + ":" + line + ": " + why);
    }

    /** Public, as the examples call it from another class loader. */
    public static void due(int line, String statement, int got, int want) {
        ASKED.add(line);
        if (got != want) {
            fail(line, statement + " answered " + got + ", told is " + want);
        }
    }

    public static void main(String[] args) throws IOException, ReflectiveOperationException {
        List<String> lines = Files.readAllLines(Path.of(README));
        List<Integer> starts = new ArrayList<>();
        String asWritten = source(AS_WRITTEN, lines, false, starts);
        String checked = source(CHECKED, lines, true, new ArrayList<>());
        if (starts.isEmpty()) {
            fail(1, "no example");
        }
        lookForFace(asWritten);
        if (wrong == 0) {
            compileAndRun(asWritten, checked, starts);
        }
        System.out.println(starts.size() + " examples, " + ASKED.size() + " answers, " + wrong + " things wrong");
        if (wrong != 0) {
            System.exit(1);
        }
    }

    // ---- from README.md to Java

    /** Line by line, so that what javac says of a line is said of the same line of README.md. */
    private static String source(String name, List<String> lines, boolean isChecked, List<Integer> starts) {
        StringBuilder source = new StringBuilder("public final class " + name + " { ");
        boolean inside = false;
        for (int line = 1; line <= lines.size(); line++) {
            String text = lines.get(line - 1);
            if (text.startsWith("```")) {
                boolean isStart = !inside;
                if (isStart) {
                    starts.add(line);
                }
                if (!text.equals(isStart ? "```java" : "```")) {
                    fail(line, "neither starts nor ends an example: " + text);
                }
                source.append(isStart ? "public static void example" + line + "() {" : "}");
                inside = isStart;
            } else if (inside) {
                source.append(isChecked ? checked(line, text) : text);
            }
            source.append('\n');
        }
        if (inside) {
            fail(lines.size(), "the last example has no end");
        }
        return source.append("}\n").toString();
    }

    private static String checked(int line, String text) {
        Matcher matcher = ANSWERED.matcher(text);
        if (!text.contains("//")) {
            return text;
        }
        if (!matcher.matches()) {
            fail(line, "no answer can be read: " + text);
            return text;
        }
        TOLD.add(line);
        String answer = matcher.group(4);
        String want = Character.isDigit(answer.charAt(0)) ? answer : "FerryQuay." + answer;
        boolean isNamed = matcher.group(1) != null;
        String got = isNamed ? matcher.group(2) : matcher.group(3).trim();
        return (isNamed ? matcher.group(1) + matcher.group(3) + "; " : "")
            + "ReadmeTest.due(" + line + ", \"" + matcher.group(3).trim() + "\", " + got + ", " + want + ");";
    }

    /** README.md shows how each call is used, and when each constant is answered. */
    private static void lookForFace(String source) {
        for (Method method : FerryQuay.class.getDeclaredMethods()) {
            if (Modifier.isPublic(method.getModifiers()) && !source.contains("quay." + method.getName() + "(")) {
                fail(1, "no example calls " + method.getName());
            }
        }
        for (Field field : FerryQuay.class.getDeclaredFields()) {
            if (Modifier.isPublic(field.getModifiers())
                && !Pattern.compile("// " + field.getName() + "\\b").matcher(source).find()) {
                fail(1, "no example answers " + field.getName());
            }
        }
    }

    // ---- from Java to answers

    private static void compileAndRun(String asWritten, String checked, List<Integer> starts)
            throws IOException, ReflectiveOperationException {
        Path directory = Files.createTempDirectory("readme");
        try {
            if (compiles(directory, AS_WRITTEN, asWritten) && compiles(directory, CHECKED, checked)) {
                runAll(directory, starts);
            }
        } finally {
            for (File file : directory.toFile().listFiles()) {
                file.delete();
            }
            directory.toFile().delete();
        }
    }

    private static boolean compiles(Path directory, String name, String source) throws IOException {
        Path file = Files.writeString(directory.resolve(name + ".java"), source);
        JavaCompiler compiler = ToolProvider.getSystemJavaCompiler();
        int code = compiler == null ? -1 : compiler.run(null, System.out, System.out, "-encoding", "UTF-8",
            "-cp", System.getProperty("java.class.path"), "-d", directory.toString(), file.toString());
        if (code != 0) {
            fail(1, "the examples do not compile (a line of " + name + ".java is that line of " + README + ")");
        }
        return code == 0;
    }

    private static void runAll(Path directory, List<Integer> starts)
            throws IOException, ReflectiveOperationException {
        URL[] places = {directory.toUri().toURL()};
        try (URLClassLoader loader = new URLClassLoader(places, ReadmeTest.class.getClassLoader())) {
            Class<?> examples = loader.loadClass(CHECKED);
            for (int start : starts) {
                runOne(examples.getMethod("example" + start), start);
            }
        }
        for (int line : TOLD) {
            if (!ASKED.contains(line)) {
                fail(line, "the example never comes to this call");
            }
        }
    }

    private static void runOne(Method example, int start) throws IllegalAccessException {
        int before = ASKED.size();
        try {
            example.invoke(null);
        } catch (InvocationTargetException thrown) {
            fail(start, "the example threw " + thrown.getCause());
        }
        if (ASKED.size() == before) {
            fail(start, "the example tells no answer");
        }
    }
}
