import java.lang.reflect.InvocationTargetException;
import java.lang.reflect.Method;
import java.lang.reflect.Modifier;
import java.util.Objects;
import java.util.TreeMap;

/** What all tests use: running them, telling answers as texts, and counting the wrong ones. */
final class Checks {
    interface Call {
        long make();
    }

    static final String INDEX = "IndexOutOfBoundsException";
    static final String ARGUMENT = "IllegalArgumentException";
    static final String STATE = "IllegalStateException";
    static final String UNSUPPORTED = "UnsupportedOperationException";

    static final int NONE = -1;
    static final int LIMIT = 20000000;
    static final int LEAST = Integer.MIN_VALUE;
    static final int MOST = Integer.MAX_VALUE;

    private static int made = 0;
    private static int wrong = 0;
    private static String test = "";

    private Checks() {
    }

    /** Makes every test of a class: its functions without parameters that are named after a promise or a term. */
    static void run(Class<?> tests) {
        TreeMap<String, Method> named = new TreeMap<>();
        for (Method m : tests.getDeclaredMethods()) {
            boolean isTest = m.getName().startsWith("promise") || m.getName().startsWith("terms");
            if (isTest && Modifier.isStatic(m.getModifiers()) && m.getParameterCount() == 0) {
                named.put(m.getName(), m);
            }
        }
        for (Method m : named.values()) {
            make(m);
        }
        due("the class has tests", !named.isEmpty(), true);
        close();
    }

    private static void make(Method m) {
        test = m.getName() + ": ";
        int before = made;
        try {
            m.invoke(null);
        } catch (InvocationTargetException e) {
            due("threw", e.getCause(), null);
        } catch (IllegalAccessException e) {
            due("threw", e, null);
        }
        due("checks something", made > before, true);
        test = "";
    }

    static void due(String what, Object got, Object want) {
        made++;
        if (!Objects.equals(got, want)) {
            wrong++;
            System.out.println(test + what + " answered " + got + ", due is " + want);
        }
    }

    static void due(String what, long got, long want) {
        due(what, Long.valueOf(got), Long.valueOf(want));
    }

    static void due(String what, boolean got, boolean want) {
        due(what, Boolean.valueOf(got), Boolean.valueOf(want));
    }

    /** The answer of a call, or the name of the exception that it throws. */
    static String answer(Call call) {
        try {
            return Long.toString(call.make());
        } catch (RuntimeException e) {
            return e.getClass().getSimpleName();
        }
    }

    static long row(String signs) {
        long row = 0;
        for (int i = signs.length() - 1; i >= 0; i--) {
            row = row << 8 | signs.charAt(i);
        }
        return row;
    }

    static void close() {
        System.out.println(made + " checks, " + wrong + " wrong");
        if (wrong != 0) {
            System.exit(1);
        }
    }
}
