import java.util.concurrent.Callable;

/** Counts and prints the answers that are not as due. */
final class Checks {
    private int wrong = 0;
    private int made = 0;

    void same(String what, Object due, Object got) {
        made++;
        if (!due.equals(got)) {
            wrong++;
            System.out.println(what + " answered " + got + ", due is " + due);
        }
    }

    /** The answer of a call, or the name of what it throws. */
    static Object answer(Callable<?> call) {
        try {
            return call.call();
        } catch (Exception e) {
            return e.getClass().getSimpleName();
        }
    }

    void end() {
        System.out.println(made + " checks, " + wrong + " wrong");
        if (wrong != 0) {
            System.exit(1);
        }
    }
}
