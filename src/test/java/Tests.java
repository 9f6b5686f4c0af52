import java.lang.reflect.InvocationTargetException;
import java.lang.reflect.Method;
import java.util.Arrays;
import java.util.Comparator;
import java.util.List;

/** Runs the tests of a class, each for its sentence, and names those that fail. */
final class Tests {
    private Tests() {
    }

    /** Every method of the class that bears a sentence. */
    static List<Method> of(Class<?> tests) {
        return Arrays.stream(tests.getDeclaredMethods())
                .filter(method -> method.isAnnotationPresent(Sentence.class))
                .sorted(Comparator.comparing(Method::getName))
                .toList();
    }

    static void run(Class<?> tests) {
        int failed = 0;
        for (Method test : of(tests)) {
            if (!passes(test)) {
                failed++;
                System.out.println("  by " + tests.getSimpleName() + "." + test.getName() + ", for \""
                        + test.getAnnotation(Sentence.class).value() + "\" in \""
                        + tests.getAnnotation(Section.class).value() + "\"");
            }
        }
        if (failed != 0 || of(tests).isEmpty()) {
            System.out.println(failed + " of " + of(tests).size() + " tests failed");
            System.exit(1);
        }
    }

    private static boolean passes(Method test) {
        Expect expect = new Expect();
        try {
            test.invoke(null, expect);
        } catch (InvocationTargetException thrown) {
            expect.tell("threw " + thrown.getCause());
        } catch (IllegalAccessException hidden) {
            expect.tell("cannot be called: " + hidden);
        }
        return expect.holds();
    }
}
