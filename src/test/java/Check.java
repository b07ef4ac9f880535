import java.lang.reflect.InvocationTargetException;
import java.lang.reflect.Method;
import java.lang.reflect.Modifier;
import java.util.Arrays;
import java.util.Comparator;

// Runs the tests of a class, counts the answers that are not as due, and ends with exit code 1
// if there was one.
final class Check {
    static final int INVALID = -1000001;
    static final int NOT_POSSIBLE = -1000002;
    static final int LIMIT = -1000003;
    static final int NOT_FOUND = -1000004;
    static final int LEAST = Integer.MIN_VALUE;
    static final int MOST = Integer.MAX_VALUE;

    private static final int MOST_LINES = 50;

    private static int wrong = 0;
    private static long asked = 0;
    private static String test = "";

    private Check() {
    }

    static void due(String call, long got, long want) {
        due(call, got == want, Long.toString(got), Long.toString(want));
    }

    static void due(String call, String got, String want) {
        due(call, got.equals(want), got, want);
    }

    static void truth(String what, boolean holds) {
        due(what, holds, "no", "yes");
    }

    private static void due(String call, boolean same, String got, String want) {
        asked++;
        if (same) {
            return;
        }
        wrong++;
        if (wrong <= MOST_LINES) {
            System.out.println(test + call + " answered " + got + ", due is " + want);
        }
    }

    static int wrongSoFar() {
        return wrong;
    }

    // Every static method without parameters is a test but main: so none can be forgotten.
    static void runTestsOf(Class<?> type) {
        Method[] methods = type.getDeclaredMethods();
        Arrays.sort(methods, Comparator.comparing(Method::getName));
        int tests = 0;
        for (Method method : methods) {
            if (isTest(method)) {
                tests++;
                runTest(method);
            }
        }
        System.out.println(tests + " tests of their own");
        truth(type.getName() + " has tests", tests > 0);
        end();
    }

    private static boolean isTest(Method method) {
        return Modifier.isStatic(method.getModifiers()) && !Modifier.isPrivate(method.getModifiers())
            && method.getParameterCount() == 0 && !method.isSynthetic();
    }

    private static void runTest(Method method) {
        long before = asked;
        test = method.getName() + ": ";
        try {
            method.invoke(null);
        } catch (IllegalAccessException | InvocationTargetException thrown) {
            due("the test ended with " + thrown.getCause(), 0, 1);
        }
        truth("asks something", asked > before);
        test = "";
    }

    static void end() {
        System.out.println(asked + " answers, " + wrong + " not as due");
        if (wrong != 0) {
            System.exit(1);
        }
    }
}
