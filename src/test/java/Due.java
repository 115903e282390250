import java.util.Objects;

/** What is due of a call, and whether it came. */
final class Due {
    interface Call {
        Object answer();
    }

    private static int checks = 0;
    private static int wrong = 0;
    private static String heading = "";

    private Due() {
    }

    /** What is printed ahead of each wrong answer from now on. */
    static void under(String words) {
        heading = words;
    }

    static int checks() {
        return checks;
    }

    static void is(String call, Object got, Object want) {
        checks++;
        if (!Objects.equals(got, want)) {
            wrong++;
            System.out.println(heading + call + " answered " + got + ", due is " + want);
        }
    }

    /** The call must throw this very class, nothing below it, and change nothing. */
    static void refuses(ScratchMap x, Class<? extends RuntimeException> want, String name, Call call) {
        String before = Picture.of(x);
        is(name, outcome(call), want);
        is(name + " changed something", Picture.of(x), before);
    }

    /** The answer, or the class of the exception. */
    static Object outcome(Call call) {
        try {
            return call.answer();
        } catch (RuntimeException e) {
            return e.getClass();
        }
    }

    static void end() {
        System.out.println(checks + " checks, " + wrong + " wrong");
        if (wrong > 0 || checks == 0) {
            System.exit(1);
        }
    }
}
