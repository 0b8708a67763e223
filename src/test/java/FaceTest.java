import java.io.IOException;
import java.lang.reflect.Constructor;
import java.lang.reflect.Field;
import java.lang.reflect.Method;
import java.lang.reflect.Modifier;
import java.nio.file.Files;
import java.nio.file.Path;
import java.util.Arrays;
import java.util.Set;
import java.util.TreeSet;
import java.util.regex.Matcher;
import java.util.regex.Pattern;

/** The public face is the document's and no more; the source keeps off what LANGUAGE.md forbids. */
public final class FaceTest {
    private static final String[] FACE = {
        "gate()", "ramp(int)", "berth(int)", "hinge(int,int)", "lay(int,int)", "shut(int,boolean)",
        "arrive(int,int)", "board(int,int)", "land(int,int)", "swap(int,int)", "round(int,int)", "tend(int)",
        "shift(int,int,int)", "state(int,int)", "waiting(int,int)", "aboard(int,int)", "ofGate(int,int)",
        "ofRamp(int,int)", "count(int)"};
    /** The document's headings, and which of the face comes first behind each. */
    private static final String[] HEADINGS = {"what there is", "what is done", "what is told"};
    private static final String[] FIRST = {"gate()", "board(int,int)", "state(int,int)"};
    private static final String[] CONSTANTS = {"NONE", "BAD", "FULL", "MISSING", "DENIED", "STALLED"};
    private static final Pattern FORBIDDEN = Pattern.compile(
        "\\b(package|import|throws?|try|catch|finally|synchronized|assert|protected|native|volatile|\\w+Exact)\\b|->|::");

    private static int wrong = 0;

    private static void due(String what, Object got, Object want) {
        if (!got.equals(want)) {
            wrong++;
            System.out.println(what + " is " + got + ", due is " + want);
        }
    }

    public static void main(String[] args) throws IOException {
        checkClass();
        checkMethods();
        checkConstants();
        checkNestedClasses();
        checkHeadings();
        checkSource();
        System.out.println(wrong == 0 ? "the face is as due" : wrong + " things are not as due");
        if (wrong != 0) {
            System.exit(1);
        }
    }

    private static void checkClass() {
        due("the class's modifiers", FerryQuay.class.getModifiers(), Modifier.PUBLIC | Modifier.FINAL);
        Constructor<?>[] constructors = FerryQuay.class.getDeclaredConstructors();
        due("the number of constructors", constructors.length, 1);
        due("the constructor", constructors[0].toString(), "public FerryQuay()");
    }

    private static void checkMethods() {
        Set<String> got = new TreeSet<>();
        Set<String> publicNames = new TreeSet<>();
        for (Method method : FerryQuay.class.getDeclaredMethods()) {
            if (Modifier.isPrivate(method.getModifiers())) {
                continue;
            }
            due("modifiers of " + method.getName(), method.getModifiers(), Modifier.PUBLIC);
            due("answer of " + method.getName(), method.getReturnType(), int.class);
            String text = method.toString();
            got.add(text.substring(text.indexOf("FerryQuay.") + "FerryQuay.".length()));
            publicNames.add(method.getName());
        }
        due("the methods", got, new TreeSet<>(Arrays.asList(FACE)));
        for (Method method : FerryQuay.class.getDeclaredMethods()) {
            if (Modifier.isPrivate(method.getModifiers()) && publicNames.contains(method.getName())) {
                due("a private method's name", method.getName(), "another than a public one's");
            }
        }
    }

    private static void checkConstants() {
        Set<String> got = new TreeSet<>();
        for (Field field : FerryQuay.class.getDeclaredFields()) {
            int modifiers = field.getModifiers();
            due(field.getName() + " is changeable static state",
                Modifier.isStatic(modifiers) && !Modifier.isFinal(modifiers), false);
            if (!Modifier.isPrivate(modifiers)) {
                due("modifiers of " + field.getName(), modifiers,
                    Modifier.PUBLIC | Modifier.STATIC | Modifier.FINAL);
                got.add(field.getName());
            }
        }
        due("the constants", got, new TreeSet<>(Arrays.asList(CONSTANTS)));
    }

    private static void checkNestedClasses() {
        for (Class<?> nested : FerryQuay.class.getDeclaredClasses()) {
            due(nested.getName() + " is static", Modifier.isStatic(nested.getModifiers()), true);
            due(nested.getName() + " is public", Modifier.isPublic(nested.getModifiers()), false);
        }
    }

    private static void checkHeadings() throws IOException {
        StringBuilder want = new StringBuilder();
        for (String call : FACE) {
            int heading = Arrays.asList(FIRST).indexOf(call);
            want.append(heading < 0 ? "" : "---- " + HEADINGS[heading] + "\n");
            want.append(call, 0, call.indexOf('(')).append('\n');
        }
        StringBuilder got = new StringBuilder();
        Matcher matcher = Pattern.compile("// (---- what .*)|public int (\\w+)\\(")
            .matcher(Files.readString(Path.of("src/main/java/FerryQuay.java")));
        while (matcher.find()) {
            got.append(matcher.group(1) == null ? matcher.group(2) : matcher.group(1)).append('\n');
        }
        due("the calls under their headings", got.toString(), want.toString());
    }

    private static void checkSource() throws IOException {
        String source = Files.readString(Path.of("src/main/java/FerryQuay.java"));
        String code = source.replaceAll("(?s)/\\*.*?\\*/", "").replaceAll("//[^\n]*", "");
        Matcher matcher = FORBIDDEN.matcher(code);
        while (matcher.find()) {
            due("in the source", matcher.group(), "nothing that is forbidden");
        }
    }
}
