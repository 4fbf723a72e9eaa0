import java.util.Objects;

/** Counts what is not as due; a test's main method ends with done(). */
final class Checks {
    private static int made = 0;
    private static int wrong = 0;

    private Checks() {
    }

    static void same(String what, Object want, Object got) {
        made++;
        if (!Objects.equals(want, got)) {
            wrong++;
            System.out.println(what + ": due is " + want + ", but it is " + got);
        }
    }

    /** The class must be the very one: a class above or below it is wrong too. */
    static void fails(String what, Class<? extends RuntimeException> want, Runnable call) {
        Object got = "no exception";
        try {
            call.run();
        } catch (RuntimeException e) {
            got = e.getClass();
        }
        same(what, want, got);
    }

    static void done() {
        System.out.println(made + " checks, " + wrong + " wrong");
        if (wrong != 0 || made == 0) {
            System.exit(1);
        }
    }
}
