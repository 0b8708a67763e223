import java.lang.reflect.InvocationTargetException;
import java.lang.reflect.Method;
import java.util.Arrays;
import java.util.Comparator;
import java.util.List;
import java.util.stream.Collectors;

/** Runs the tests of a class, one for each sentence, each on a new object. */
final class Sentences {
    private Sentences() {
    }

    static void testAll(Class<?> tests) {
        List<Method> all = Arrays.stream(tests.getDeclaredMethods())
            .filter(method -> method.isAnnotationPresent(Sentence.class))
            .sorted(Comparator.comparing(Method::getName))
            .collect(Collectors.toList());
        long broken = all.stream().filter(test -> !holds(test)).count();
        System.out.println(all.size() + " sentences, " + broken + " broken");
        if (all.isEmpty() || broken != 0) {
            System.exit(1);
        }
    }

    private static boolean holds(Method test) {
        Run run = new Run();
        try {
            test.invoke(null, run);
        } catch (InvocationTargetException thrown) {
            run.fail("threw " + thrown.getCause());
        } catch (IllegalAccessException | IllegalArgumentException unfit) {
            run.fail("is no test: " + unfit);
        }
        if (!run.isAsDue()) {
            System.out.println(test.getName() + ": \"" + test.getAnnotation(Sentence.class).value() + "\"");
            System.out.println(run.report());
        }
        return run.isAsDue();
    }
}
