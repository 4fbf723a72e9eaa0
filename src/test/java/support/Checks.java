import java.util.Objects;

/** Counts what is not as due; a test's main method ends with done(). */
final class Checks {
    private static int made = 0;
    private static int wrong = 0;
    private static int sentences = 0;
    private static int madeBefore = 0;
    private static String sentence = "";

    private Checks() {
    }

    /** The sentence of the document that the checks behind hold to; none may go without a check. */
    static void about(String words) {
        endSentence();
        sentences++;
        sentence = words;
        madeBefore = made;
    }

    private static void endSentence() {
        if (sentences > 0 && made == madeBefore) {
            tell("no check holds to it");
        }
    }

    private static void tell(String what) {
        wrong++;
        System.out.println("\"" + sentence + "\": " + what);
    }

    static void same(String what, Object want, Object got) {
        made++;
        if (!Objects.equals(want, got)) {
            tell(what + ": due is " + want + ", but it is " + got);
        }
    }

    /** The class must be the very one, a class above or below it is wrong too; and the machine may not throw it. */
    static void fails(String what, Class<? extends RuntimeException> want, Runnable call) {
        Object got = "no exception";
        try {
            call.run();
        } catch (RuntimeException e) {
            got = isOfTheMachine(e) ? "an exception of the machine" : e.getClass();
        }
        same(what, want, got);
    }

    /** The machine and the library tell the length; a throw of the program tells a text of its own. */
    private static boolean isOfTheMachine(RuntimeException e) {
        return e.getMessage() != null && e.getMessage().contains("out of bounds for length");
    }

    static void done() {
        endSentence();
        System.out.println(sentences + " sentences, " + made + " checks, " + wrong + " wrong");
        if (wrong != 0 || made == 0) {
            System.exit(1);
        }
    }
}
