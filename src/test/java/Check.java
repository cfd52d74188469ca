import java.util.Objects;

/** Counts the answers that are not as due, and prints them. */
final class Check {
    interface Call {
        Object make();
    }

    private static int made = 0;
    private static int wrong = 0;

    private Check() {
    }

    static void same(String what, Object got, Object due) {
        made++;
        if (!Objects.equals(got, due)) {
            wrong++;
            System.out.println(what + " answered " + got + ", due is " + due);
        }
    }

    /** What a call answers, or the name of the exception that it throws. */
    static Object answerOf(Call call) {
        try {
            return call.make();
        } catch (RuntimeException thrown) {
            return thrown.getClass().getSimpleName();
        }
    }

    /** The call throws that very exception, and the ward shows itself as before. */
    static void fails(String what, Ramseyward ward, Class<? extends RuntimeException> due, Call call) {
        String before = View.of(ward);
        same(what, answerOf(call), due.getSimpleName());
        same(what + " has changed nothing", View.of(ward), before);
    }

    static void end(String test) {
        System.out.println(test + ": " + made + " checks, " + wrong + " wrong");
        if (wrong != 0) {
            System.exit(1);
        }
    }
}
