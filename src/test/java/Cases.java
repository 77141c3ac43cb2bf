import java.lang.reflect.InvocationTargetException;
import java.lang.reflect.Method;
import java.util.Arrays;
import java.util.Comparator;

/** Runs each method whose name begins with promiseN_ as a test of its own, which bears that name. */
final class Cases {
    private Cases() {
    }

    /** Every one of these promises must have a case. */
    static void run(Class<?> tests, int... promises) throws IllegalAccessException {
        Method[] methods = tests.getDeclaredMethods();
        Arrays.sort(methods, Comparator.comparing(Method::getName));
        for (int promise : promises) {
            int cases = 0;
            for (Method method : methods) {
                if (method.getName().startsWith("promise" + promise + "_")) {
                    cases++;
                    run(method);
                }
            }
            Check.begin("promise" + promise);
            Check.isTrue("has cases", cases > 0);
            System.out.println("promise " + promise + ": " + cases + " cases");
        }
        Check.finish();
    }

    private static void run(Method method) throws IllegalAccessException {
        Check.begin(method.getName());
        int before = Check.checked();
        try {
            method.invoke(null);
        } catch (InvocationTargetException e) {
            Check.fail("threw " + e.getCause());
        }
        if (Check.checked() == before) {
            Check.fail("checks nothing");
        }
    }
}
