import java.lang.reflect.Method;
import java.util.ArrayList;
import java.util.Comparator;
import java.util.List;

/** The tests of single sentences, and what runs them. */
final class Boundaries {
    static final List<Class<?>> CLASSES = List.of(BoundaryTermsTest.class, BoundarySegmentsTest.class,
        BoundaryChangesTest.class, BoundaryAnswersTest.class, BoundaryTextsTest.class, BoundaryStatesTest.class);

    private Boundaries() {
    }

    static List<Method> testsOf(Class<?> tests) {
        List<Method> found = new ArrayList<>();
        for (Method method : tests.getDeclaredMethods()) {
            if (method.isAnnotationPresent(Sentence.class)) {
                found.add(method);
            }
        }
        found.sort(Comparator.comparing(Method::getName));
        return found;
    }

    static List<Method> all() {
        List<Method> found = new ArrayList<>();
        for (Class<?> tests : CLASSES) {
            found.addAll(testsOf(tests));
        }
        return found;
    }

    /** Runs the tests of a class, and ends the program. */
    static void main(Class<?> tests) {
        Check all = new Check();
        for (Method test : testsOf(tests)) {
            String said = String.join(" .. ", test.getAnnotation(Sentence.class).value());
            Check check = new Check(test.getName() + " [" + said + "]: ", true);
            all.due(test.getName() + " ran to its end", run(test, check, true));
            all.due(test.getName() + " passed", check.passed());
            all.add(check);
        }
        all.end(tests.getSimpleName());
    }

    /** Called by BrokenTest, beside a broken program; returns whether the test passes. */
    static boolean passes(String name) {
        for (Method test : all()) {
            if (test.getName().equals(name)) {
                Check check = new Check("", false);
                return run(test, check, false) && check.passed();
            }
        }
        throw new IllegalArgumentException("no test " + name);
    }

    private static boolean run(Method test, Check check, boolean tells) {
        try {
            test.invoke(null, check);
            return true;
        } catch (ReflectiveOperationException failed) {
            if (tells) {
                failed.printStackTrace(System.out);
            }
            return false;
        }
    }
}
