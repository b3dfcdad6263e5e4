import java.lang.reflect.InvocationTargetException;
import java.lang.reflect.Method;
import java.util.Arrays;
import java.util.Comparator;
import java.util.List;
import java.util.stream.Collectors;

/** Runs the cases of a class: its static methods named p, the promise's two digits, _ and what it says. */
final class Cases {
    private Cases() {
    }

    static List<Method> of(Class<?> tests) {
        return Arrays.stream(tests.getDeclaredMethods()).filter(m -> m.getName().matches("p[0-9][0-9]_.*"))
                .sorted(Comparator.comparing(Method::getName)).collect(Collectors.toList());
    }

    static int promiseOf(Method test) {
        return Integer.parseInt(test.getName().substring(1, 3));
    }

    static void run(Class<?> tests) throws IllegalAccessException {
        for (Method test : of(tests)) {
            Checks.running(test.getName());
            try {
                test.setAccessible(true);
                test.invoke(null);
            } catch (InvocationTargetException e) {
                Checks.due("it threw " + e.getCause(), false);
            }
        }
        Checks.running("");
        Checks.finish(tests.getName());
    }
}
