import java.lang.reflect.InvocationTargetException;
import java.lang.reflect.Method;
import java.lang.reflect.Modifier;
import java.util.ArrayList;
import java.util.Arrays;
import java.util.Comparator;
import java.util.List;

/** Runs the tests of a class: its methods without parameters, each of which bears what the document says. */
final class Edges {
    private Edges() {
    }

    static List<Method> testsOf(Class<?> tests) {
        List<Method> found = new ArrayList<>();
        for (Method method : tests.getDeclaredMethods()) {
            if (Modifier.isStatic(method.getModifiers()) && method.getReturnType() == void.class
                    && method.getParameterCount() == 0) {
                found.add(method);
            }
        }
        found.sort(Comparator.comparing(Method::getName));
        return found;
    }

    static void run(Class<?> tests) {
        for (Method test : testsOf(tests)) {
            run(test);
        }
        Check.end();
    }

    private static void run(Method test) {
        Says says = test.getAnnotation(Says.class);
        if (says == null) {
            Check.same(test.getName(), "bears what the document says", "bears nothing");
            return;
        }
        Check.about(says.at() + ", " + test.getName() + " " + Arrays.toString(says.words()) + ": ");
        int before = Check.checked();
        try {
            test.invoke(null);
        } catch (InvocationTargetException e) {
            Check.same("the test", "ends", "throws " + e.getCause());
        } catch (IllegalAccessException e) {
            Check.same("the test", "runs", "is private");
        }
        Check.same("the test", "checks something", Check.checked() > before ? "checks something" : "checks nothing");
        Check.about("");
    }
}
