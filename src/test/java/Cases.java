import java.lang.reflect.InvocationTargetException;
import java.lang.reflect.Method;
import java.lang.reflect.Modifier;
import java.util.Arrays;
import java.util.Comparator;

/**
 * Runs each boundary case of a test, a method without parameters whose name is p, the promise's
 * number in two digits and what the case is; one that is wrong is told by its name.
 */
final class Cases {
    private Cases() {
    }

    static void run(Class<?> test, int... promises) {
        Method[] all = test.getDeclaredMethods();
        Arrays.sort(all, Comparator.comparing(Method::getName));
        for (int promise : promises) {
            String start = String.format("p%02d", promise);
            int count = 0;
            for (Method method : all) {
                if (method.getName().startsWith(start)) {
                    runOne(method);
                    count++;
                }
            }
            Check.due("promise " + promise + " has cases", count > 0 ? 1 : 0, 1);
        }
        for (Method method : all) {
            boolean isCase = method.getParameterCount() == 0 && !Modifier.isPrivate(method.getModifiers());
            String name = method.getName();
            boolean ran = Arrays.stream(promises).anyMatch(p -> name.startsWith(String.format("p%02d", p)));
            Check.due("case " + name + " was run", isCase && !ran ? 0 : 1, 1);
        }
        Check.end();
    }

    /** A call that throws is one wrong answer of its case, and the other cases are run all the same. */
    private static void runOne(Method method) {
        Check.begin(method.getName());
        int before = Check.checked();
        try {
            method.invoke(null);
        } catch (InvocationTargetException thrown) {
            Check.due("threw " + thrown.getCause(), 1, 0);
        } catch (IllegalAccessException closed) {
            Check.due("can't be called: " + closed, 1, 0);
        }
        Check.due("checks something", Check.checked() > before ? 1 : 0, 1);
        Check.begin("");
    }
}
