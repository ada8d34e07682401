import java.lang.reflect.InvocationTargetException;
import java.lang.reflect.Method;
import java.util.Arrays;
import java.util.Comparator;

/** Runs every test of a class: each method that takes a Check alone, under its own name. */
final class Suite {
    private Suite() {
    }

    static void run(Class<?> tests) {
        int ran = 0;
        int failed = 0;
        Class<?>[] checkAlone = {Check.class};
        Method[] methods = tests.getDeclaredMethods();
        Arrays.sort(methods, Comparator.comparing(Method::getName));
        for (Method method : methods) {
            if (method.isSynthetic() || !Arrays.equals(method.getParameterTypes(), checkAlone)) {
                continue;
            }
            ran++;
            if (!holds(tests, method)) {
                failed++;
            }
        }
        System.out.println(tests.getSimpleName() + ": " + ran + " tests, " + failed + " failed");
        if (failed > 0 || ran == 0) {
            System.exit(1);
        }
    }

    private static boolean holds(Class<?> tests, Method method) {
        Check check = new Check(tests.getSimpleName() + "." + method.getName());
        Says says = method.getAnnotation(Says.class);
        check.same("tests that tell no sentence", says == null ? 1 : 0, 0);
        int told = check.count();
        try {
            method.setAccessible(true);
            method.invoke(null, check);
        } catch (InvocationTargetException thrown) {
            check.fail("threw " + thrown.getCause());
        } catch (IllegalAccessException hidden) {
            check.fail("cannot be run");
        }
        check.same("tests that look at nothing", check.count() == told ? 1 : 0, 0);
        if (!check.holds() && says != null) {
            System.out.println("    the document says: " + says.value());
        }
        return check.holds();
    }
}
