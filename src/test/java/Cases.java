import java.lang.reflect.InvocationTargetException;
import java.lang.reflect.Method;
import java.util.Map;
import java.util.TreeMap;

/**
 * Runs the cases of a test: its static methods that take a Checks, and those that take a Checks and a gauge, which
 * run for both gauges. A case bears the promise (or "terms", a rule of LANGUAGE.md, "readme") and what it is about in
 * its name.
 */
final class Cases {
    private Cases() {
    }

    /** Ends with exit code 1 if a case is not as due, or if there is none. */
    static void run(Class<?> test) {
        Map<String, Method> cases = new TreeMap<>();
        for (Method method : test.getDeclaredMethods()) {
            if (method.getName().matches("(promise[0-9]{2}|terms|rule[0-9]{2}|readme)_.*")) {
                cases.put(method.getName(), method);
            }
        }
        boolean good = !cases.isEmpty();
        for (Method method : cases.values()) {
            good = isGood(method) && good;
        }
        if (!good) {
            System.exit(1);
        }
    }

    private static boolean isGood(Method method) {
        if (method.getParameterCount() == 1) {
            return endsGood(method, new Checks(method.getName()));
        }
        boolean warmth = endsGood(method, new Checks(method.getName() + ", gauge 0"), 0);
        return endsGood(method, new Checks(method.getName() + ", gauge 1"), 1) && warmth;
    }

    private static boolean endsGood(Method method, Checks checks, Object... gauge) {
        try {
            if (gauge.length == 0) {
                method.invoke(null, checks);
            } else {
                method.invoke(null, checks, gauge[0]);
            }
        } catch (InvocationTargetException thrown) {
            checks.due(method.getName() + " threw " + thrown.getCause(), true, false);
        } catch (IllegalAccessException hidden) {
            checks.due(method.getName() + " can not be called", true, false);
        }
        return checks.finish();
    }
}
