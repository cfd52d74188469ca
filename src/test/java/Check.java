import java.util.Objects;

/** Counts the answers that are not as due, and prints them. */
final class Check {
    interface Call {
        Object make();
    }

    private static int made = 0;
    private static int wrong = 0;

    private Check() {
    }

    static boolean same(String what, Object got, Object due) {
        made++;
        boolean isSame = Objects.equals(got, due);
        if (!isSame) {
            wrong++;
            System.out.println(what + " answered " + got + ", due is " + due);
        }
        return isSame;
    }

    /** What a call answers, or the name of the exception that it throws. */
    static Object answerOf(Call call) {
        try {
            return call.make();
        } catch (RuntimeException thrown) {
            return thrown.getClass().getSimpleName();
        }
    }

    static void end(String test) {
        System.out.println(test + ": " + made + " checks, " + wrong + " wrong");
        if (wrong != 0) {
            System.exit(1);
        }
    }
}
