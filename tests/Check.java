import java.lang.reflect.InvocationTargetException;
import java.lang.reflect.Method;
import java.lang.reflect.Modifier;
import java.util.Objects;

/** What the tests share: they compare answers, count the wrong ones, and end with them. */
final class Check {
    static final Class<? extends RuntimeException> INDEX = IndexOutOfBoundsException.class;
    static final Class<? extends RuntimeException> ARGUMENT = IllegalArgumentException.class;
    static final Class<? extends RuntimeException> STATE = IllegalStateException.class;

    private static int asked = 0;
    private static int wrong = 0;

    private Check() {
    }

    interface Asks {
        Object ask();
    }

    interface Does {
        void run();
    }

    /** What a call answers, or the class of what it throws. */
    static Object answer(Asks call) {
        try {
            return call.ask();
        } catch (RuntimeException e) {
            return e.getClass();
        }
    }

    /** The call answers what is due. */
    static void is(Object due, Asks call) {
        compare(due, answer(call));
    }

    /** The call ends without an exception. */
    static void does(Does call) {
        is("ended", () -> {
            call.run();
            return "ended";
        });
    }

    /** The call throws exactly this exception. */
    static void refuses(Class<? extends RuntimeException> due, Does call) {
        is(due, () -> {
            call.run();
            return "ended";
        });
    }

    static void compare(Object due, Object got) {
        asked++;
        if (!Objects.equals(due, got)) {
            wrong++;
            System.out.println(place() + ": answered " + got + ", due is " + due);
        }
    }

    /** Runs each test of a class: found by what it is, so that none is written and left out. */
    static void all(Class<?> tests) {
        int run = 0;
        for (Method test : tests.getDeclaredMethods()) {
            if (Modifier.isStatic(test.getModifiers()) && !Modifier.isPublic(test.getModifiers())
                    && !test.isSynthetic() && test.getParameterCount() == 0 && test.getReturnType() == void.class) {
                call(test);
                run++;
            }
        }
        System.out.print(run + " tests of ");
        end(tests.getName());
    }

    private static void call(Method test) {
        try {
            test.invoke(null);
        } catch (InvocationTargetException e) {
            wrong++;
            System.out.println(test.getName() + " ends with " + e.getCause());
        } catch (IllegalAccessException e) {
            wrong++;
            System.out.println(test.getName() + " cannot be called");
        }
    }

    static void end(String name) {
        System.out.println(name + ": " + asked + " answers, " + wrong + " not as due");
        if (wrong != 0 || asked == 0) {
            System.exit(1);
        }
    }

    private static String place() {
        return StackWalker.getInstance().walk(frames -> frames
                .filter(f -> !f.getClassName().startsWith("Check"))
                .findFirst()
                .map(f -> f.getClassName() + "." + f.getMethodName() + ", line " + f.getLineNumber())
                .orElse("?"));
    }
}
