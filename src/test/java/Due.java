/** What every test of the project uses to compare answers with those that are due. */
final class Due {
    interface Answer {
        int get();
    }

    interface Order {
        void give();
    }

    static final String UNKNOWN = "IllegalArgumentException";
    static final String RANGE = "IndexOutOfBoundsException";
    static final String STATE = "IllegalStateException";
    static final String ROOM = "UnsupportedOperationException";
    static final String NO_SHARE = "ArithmeticException";

    private static int wrong = 0;
    private static int compared = 0;
    private static String subject = "";

    private Due() {
    }

    /** Stands before each row that is printed, so that a broken promise is told by its number. */
    static void of(String promise) {
        subject = promise + ": ";
    }

    static void is(String what, int want, Answer answer) {
        same(what, Integer.toString(want), answer(answer));
    }

    /** The exception's very class is due: a subclass would be one that the machine threw. */
    static void refuses(String what, String exception, Order order) {
        same(what, exception, answer(() -> {
            order.give();
            return 0;
        }));
    }

    /** An answer as a text, or the name of the exception that came instead. */
    static String answer(Answer answer) {
        try {
            return Integer.toString(answer.get());
        } catch (RuntimeException e) {
            return e.getClass().getSimpleName() + (isOfTheMachine(e) ? " of the machine" : "");
        }
    }

    /** A division is the one case in which the machine throws just the class that the document names. */
    private static boolean isOfTheMachine(RuntimeException e) {
        return "/ by zero".equals(e.getMessage());
    }

    static void holds(String what, boolean held) {
        same(what, "true", Boolean.toString(held));
    }

    static void same(String what, String want, String got) {
        compared++;
        if (!want.equals(got)) {
            wrong++;
            System.out.println(subject + what + ": answered " + got + ", due is " + want);
        }
    }

    static int at(int x, int y) {
        return 10_000 * x + y;
    }

    static void end() {
        if (compared == 0) {
            System.out.println(subject + "nothing was compared");
            System.exit(1);
        }
        System.out.println(wrong == 0 ? "all " + compared + " answers are as due" : wrong + " answers are not as due");
        if (wrong != 0) {
            System.exit(1);
        }
    }
}
