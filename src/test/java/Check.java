import java.lang.reflect.InvocationTargetException;
import java.lang.reflect.Method;
import java.lang.reflect.Modifier;
import java.util.Arrays;
import java.util.Comparator;

/** Counts and prints the answers that are not as due; each test ends by finish() or is run by all(). */
final class Check {
    interface Call {
        long answer();
    }

    private static int wrong = 0;
    private static int asked = 0;
    private static String test = "";

    private Check() {
    }

    static void same(String what, long got, long due) {
        same(what, Long.toString(got), Long.toString(due));
    }

    static void same(String what, String got, String due) {
        asked++;
        if (!got.equals(due)) {
            fail(what + " answered " + got + ", due is " + due);
        }
    }

    static void yes(String what, boolean got) {
        same(what, got ? 1 : 0, 1);
    }

    static void no(String what, boolean got) {
        same(what, got ? 1 : 0, 0);
    }

    /** The exception must be of the very class that is due, not of one below it. */
    static void refused(String what, Class<? extends RuntimeException> due, Call call) {
        same(what, answer(call), "throws." + due.getSimpleName());
    }

    /** What a call answers, as the issues write it. */
    static String answer(Call call) {
        try {
            return Long.toString(call.answer());
        } catch (RuntimeException e) {
            return "throws." + e.getClass().getSimpleName();
        }
    }

    private static void fail(String text) {
        wrong++;
        System.out.println(test + text);
    }

    /** Runs each test of a class: its methods without parameters, each of which has to ask something. */
    static void all(Class<?> tests) {
        Method[] methods = tests.getDeclaredMethods();
        Arrays.sort(methods, Comparator.comparing(Method::getName));
        for (Method method : methods) {
            if (method.getParameterCount() == 0 && !Modifier.isPrivate(method.getModifiers())) {
                one(tests, method);
            }
        }
        test = "";
        finish();
    }

    private static void one(Class<?> tests, Method method) {
        test = tests.getSimpleName() + "." + method.getName() + ": ";
        int before = asked;
        try {
            method.invoke(null);
        } catch (InvocationTargetException e) {
            fail("threw " + e.getCause());
        } catch (IllegalAccessException e) {
            fail("cannot be run");
        }
        if (asked == before) {
            fail("asked nothing");
        }
    }

    static void finish() {
        System.out.println(asked - wrong + " of " + asked + " answers are as due");
        if (wrong != 0 || asked == 0) {
            System.exit(1);
        }
    }
}
