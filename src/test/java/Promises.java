import java.lang.reflect.InvocationTargetException;
import java.lang.reflect.Method;
import java.lang.reflect.Modifier;
import java.util.ArrayList;
import java.util.Comparator;
import java.util.List;

/** Runs the tests of a class that are named after promises: promise07_... tests promise 7. */
final class Promises {
    private Promises() {
    }

    static void run(Class<?> tests) {
        List<Method> methods = testsOf(tests);
        Check.due(tests.getName() + " has tests", methods.isEmpty(), false);
        for (Method method : methods) {
            Check.within(method.getName());
            try {
                method.setAccessible(true);
                method.invoke(null);
            } catch (InvocationTargetException e) {
                Check.due("threw " + e.getCause(), true, false);
            } catch (IllegalAccessException e) {
                Check.due("cannot be called", true, false);
            }
        }
        Check.within("");
        Check.finish();
    }

    static List<Method> testsOf(Class<?> tests) {
        List<Method> found = new ArrayList<>();
        for (Method method : tests.getDeclaredMethods()) {
            if (Modifier.isStatic(method.getModifiers()) && method.getName().matches("promise\\d\\d_\\w+")) {
                found.add(method);
            }
        }
        found.sort(Comparator.comparing(Method::getName));
        return found;
    }

    static int promiseOf(Method test) {
        return Integer.parseInt(test.getName().substring(7, 9));
    }
}
