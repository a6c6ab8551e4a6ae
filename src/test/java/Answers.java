import java.util.Objects;

/** Holds calls of a desk against what is due, prints those that differ, and ends the test. */
final class Answers {
    /** A call that may throw. */
    interface Call {
        Object answer();
    }

    private static int wrong = 0;
    private static String heading = "";

    private Answers() {
    }

    static void due(Object due, String call, Call made) {
        check("answers " + due, call, told(made));
    }

    /** The same for a call whose answer is here already. */
    static void is(Object due, String call, Object answer) {
        check("answers " + due, call, "answers " + answer);
    }

    static void thrown(Class<? extends RuntimeException> due, String call, Call made) {
        check("throws " + due.getSimpleName(), call, told(made));
    }

    static void illegal(String call, Call made) {
        thrown(IllegalArgumentException.class, call, made);
    }

    static void noPlace(String call, Call made) {
        thrown(IndexOutOfBoundsException.class, call, made);
    }

    static void tooEarly(String call, Call made) {
        thrown(IllegalStateException.class, call, made);
    }

    static void check(String due, String call, String told) {
        if (!Objects.equals(due, told)) {
            wrong++;
            System.out.println(heading + call + " " + told + ", due is: " + due);
        }
    }

    /** Prints what differs in a test under a heading; what the test throws ends that test alone. */
    static void under(String name, Runnable test) {
        heading = name + ": ";
        try {
            test.run();
        } catch (RuntimeException thrown) {
            wrong++;
            System.out.println(heading + "ends with " + thrown);
        }
        heading = "";
    }

    static String told(Call made) {
        try {
            return "answers " + made.answer();
        } catch (RuntimeException thrown) {
            return "throws " + thrown.getClass().getSimpleName();
        }
    }

    static void end() {
        System.out.println(wrong == 0 ? "all answers are as due" : wrong + " answers are not as due");
        System.exit(wrong == 0 ? 0 : 1);
    }
}
