import java.lang.reflect.InvocationTargetException;
import java.lang.reflect.Method;
import java.util.Arrays;
import java.util.Comparator;
import java.util.List;
import java.util.stream.Collectors;

/** Runs the tests of a class, one for each sentence, each on a new object. */
final class Sentences {
    private Sentences() {
    }

    static void testAll(Class<?> tests) {
        List<Method> all = Arrays.stream(tests.getDeclaredMethods())
            .filter(method -> method.isAnnotationPresent(Sentence.class))
            .sorted(Comparator.comparing(Method::getName))
            .collect(Collectors.toList());
        long failed = all.stream().filter(test -> !holds(test)).count();
        System.out.println(all.size() + " tests of sentences, " + failed + " failed");
        if (all.isEmpty() || failed != 0) {
            System.exit(1);
        }
    }

    private static boolean holds(Method test) {
        Run run = new Run();
        try {
            test.invoke(null, run);
        } catch (InvocationTargetException thrown) {
            run.fail("threw " + thrown.getCause());
        } catch (IllegalAccessException | IllegalArgumentException unfit) {
            run.fail("is no test: " + unfit);
        }
        if (!run.isAsDue()) {
            System.out.println(test.getName() + ": " + quote(test.getAnnotation(Sentence.class)));
            System.out.println(run.report());
        }
        return run.isAsDue();
    }

    private static String quote(Sentence sentence) {
        String from = sentence.promise() == 0 ? "terms" : "promise " + sentence.promise();
        String here = sentence.here().isEmpty() ? "" : " (" + sentence.here() + ")";
        return from + ", \"" + sentence.words() + "\"" + here;
    }
}
