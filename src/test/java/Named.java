import java.lang.reflect.InvocationTargetException;
import java.lang.reflect.Method;
import java.lang.reflect.Modifier;
import java.util.Map;
import java.util.TreeMap;

/** Runs each test of a class that is named after a promise: promise02_feed_.. */
final class Named {
    private Named() {
    }

    static Map<String, Method> testsOf(Class<?> owner) {
        Map<String, Method> tests = new TreeMap<>();
        for (Method method : owner.getDeclaredMethods()) {
            if (method.getName().startsWith("promise") && Modifier.isStatic(method.getModifiers())) {
                tests.put(method.getName(), method);
            }
        }
        return tests;
    }

    static void run(Class<?> owner) throws IllegalAccessException {
        int failed = 0;
        Map<String, Method> tests = testsOf(owner);
        for (Map.Entry<String, Method> test : tests.entrySet()) {
            if (!holds(test.getKey(), test.getValue())) {
                failed++;
            }
        }
        System.out.println(tests.size() + " tests, " + failed + " failed");
        Check.finish();
    }

    private static boolean holds(String name, Method test) throws IllegalAccessException {
        int wrong = Check.wrong();
        int asked = Check.asked();
        try {
            test.setAccessible(true);
            test.invoke(null);
        } catch (InvocationTargetException thrown) {
            Check.due(name + " threw " + thrown.getCause(), 1, 0);
        }
        if (Check.asked() == asked) {
            Check.due(name + " asks nothing", 1, 0);
        }
        if (Check.wrong() != wrong) {
            System.out.println("FAILED: " + name);
        }
        return Check.wrong() == wrong;
    }
}
