import java.lang.reflect.InvocationTargetException;
import java.lang.reflect.Method;
import java.util.Arrays;
import java.util.Comparator;

/** Compares answers with the ones that are due, prints the others, and ends with 1 if there were any. */
final class Due {
    interface Call {
        long answer();
    }

    interface Order {
        void give();
    }

    static final Class<? extends RuntimeException> INDEX = IndexOutOfBoundsException.class;
    static final Class<? extends RuntimeException> ARGUMENT = IllegalArgumentException.class;
    static final Class<? extends RuntimeException> STATE = IllegalStateException.class;

    private static int checks = 0;
    private static int wrong = 0;
    private static String test = "";

    private Due() {
    }

    static void is(String what, long want, long got) {
        checks++;
        if (want != got) {
            fault(what + " answered " + got + ", due is " + want);
        }
    }

    static void is(String what, boolean want, boolean got) {
        checks++;
        if (want != got) {
            fault(what + " answered " + got + ", due is " + want);
        }
    }

    /** The class must be the very one: what the machine throws is of a class below it. */
    static void refuses(String what, Class<? extends RuntimeException> want, Order order) {
        checks++;
        try {
            order.give();
            fault(what + " threw nothing, due is " + want.getSimpleName());
        } catch (RuntimeException thrown) {
            if (thrown.getClass() != want) {
                fault(what + " threw " + thrown + ", due is " + want.getSimpleName());
            }
        }
    }

    static void fault(String what) {
        wrong++;
        if (wrong <= 20) {
            System.out.println("  " + test + what);
        }
    }

    /** Runs every test of a class, each under its own name: no list to forget one in. */
    static void all(Class<?> tests) throws IllegalAccessException {
        Method[] methods = tests.getDeclaredMethods();
        Arrays.sort(methods, Comparator.comparing(Method::getName));
        int run = 0;
        for (Method method : methods) {
            if (method.getName().matches("(terms|promise\\d+)[A-Z].*")) {
                run++;
                one(method);
            }
        }
        test = "";
        System.out.println("  " + run + " tests");
        end();
    }

    private static void one(Method method) throws IllegalAccessException {
        test = method.getName() + ": ";
        int before = checks;
        method.setAccessible(true);
        try {
            method.invoke(null);
        } catch (InvocationTargetException ended) {
            fault("ended by " + ended.getCause());
        }
        if (checks == before) {
            fault("checks nothing");
        }
    }

    static void end() {
        System.out.println("  " + checks + " checks, " + wrong + " wrong");
        if (wrong != 0 || checks == 0) {
            System.exit(1);
        }
    }
}
