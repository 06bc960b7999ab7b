import java.util.Objects;

/** What the tests share: they compare answers, count the wrong ones, and end with them. */
final class Check {
    static final Class<? extends RuntimeException> INDEX = IndexOutOfBoundsException.class;
    static final Class<? extends RuntimeException> ARGUMENT = IllegalArgumentException.class;
    static final Class<? extends RuntimeException> STATE = IllegalStateException.class;

    private static int asked = 0;
    private static int wrong = 0;

    private Check() {
    }

    interface Asks {
        Object ask();
    }

    interface Does {
        void run();
    }

    /** The call answers what is due. */
    static void is(Object due, Asks call) {
        Object got;
        try {
            got = call.ask();
        } catch (RuntimeException e) {
            got = e.getClass();
        }
        compare(due, got);
    }

    /** The call ends without an exception. */
    static void does(Does call) {
        is("ended", () -> {
            call.run();
            return "ended";
        });
    }

    /** The call throws exactly this exception, and nothing that can be asked is another than ahead of it. */
    static void refuses(Rigdiary diary, Class<? extends RuntimeException> due, Does call) {
        String ahead = Picture.of(diary);
        is(due, () -> {
            call.run();
            return "ended";
        });
        compare(ahead, Picture.of(diary));
    }

    static void compare(Object due, Object got) {
        asked++;
        if (!Objects.equals(due, got)) {
            wrong++;
            System.out.println(place() + ": answered " + got + ", due is " + due);
        }
    }

    static void end(String name) {
        System.out.println(name + ": " + asked + " answers, " + wrong + " not as due");
        if (wrong != 0 || asked == 0) {
            System.exit(1);
        }
    }

    private static String place() {
        return StackWalker.getInstance().walk(frames -> frames
                .filter(f -> !f.getClassName().startsWith("Check"))
                .findFirst()
                .map(f -> f.getClassName() + "." + f.getMethodName() + ", line " + f.getLineNumber())
                .orElse("?"));
    }
}
