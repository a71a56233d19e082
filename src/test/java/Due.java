/** What every test of the project uses to compare answers with those that are due. */
final class Due {
    interface Answer {
        int get();
    }

    interface Order {
        void give();
    }

    static final String UNKNOWN = "IllegalArgumentException";
    static final String RANGE = "IndexOutOfBoundsException";
    static final String STATE = "IllegalStateException";
    static final String ROOM = "UnsupportedOperationException";
    static final String NO_SHARE = "ArithmeticException";

    private static int wrong = 0;

    private Due() {
    }

    static void is(String what, int want, Answer answer) {
        String got;
        try {
            got = Integer.toString(answer.get());
        } catch (RuntimeException e) {
            got = e.getClass().getSimpleName();
        }
        same(what, Integer.toString(want), got);
    }

    /** The exception's very class is due: a subclass would be one that the machine threw. */
    static void refuses(String what, String exception, Order order) {
        String got = "nothing";
        try {
            order.give();
        } catch (RuntimeException e) {
            got = e.getClass().getSimpleName();
        }
        same(what, exception, got);
    }

    static void same(String what, String want, String got) {
        if (!want.equals(got)) {
            wrong++;
            System.out.println(what + ": answered " + got + ", due is " + want);
        }
    }

    static int at(int x, int y) {
        return 10_000 * x + y;
    }

    static void end() {
        System.out.println(wrong == 0 ? "all answers are as due" : wrong + " answers are not as due");
        if (wrong != 0) {
            System.exit(1);
        }
    }
}
