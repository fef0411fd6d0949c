/** What the tests share: calls are made, and each answer that is not the one that is due is printed. */
class Checks {
    interface Call {
        Object make();
    }

    static final Class<?> INDEX = IndexOutOfBoundsException.class;
    static final Class<?> ARGUMENT = IllegalArgumentException.class;
    static final Class<?> STATE = IllegalStateException.class;
    static final Class<?> IMPOSSIBLE = UnsupportedOperationException.class;
    static final Class<?> NONE = java.util.NoSuchElementException.class;
    static final Class<?> DIVISION = ArithmeticException.class;

    private static int made = 0;
    private static int wrong = 0;

    /** What a call answers, or the very class of what it throws: the machine's own are classes below these. */
    static String answer(Call call) {
        try {
            return String.valueOf(call.make());
        } catch (RuntimeException e) {
            boolean isDivision = "/ by zero".equals(e.getMessage());
            return (isDivision ? "the machine throws " : "throws ") + e.getClass().getName();
        }
    }

    static void due(String what, Object want, Call call) {
        expect(what, String.valueOf(want), answer(call));
    }

    static void refused(String what, Class<?> kind, Call call) {
        expect(what, "throws " + kind.getName(), answer(call));
    }

    static void expect(String what, String want, String got) {
        made++;
        if (!want.equals(got)) {
            wrong++;
            if (wrong <= 40) {
                System.out.println(what + ": " + got + ", due is " + want);
            }
        }
    }

    static void close(String name) {
        System.out.println(name + ": " + made + " checks, " + wrong + " wrong");
        if (wrong > 0) {
            System.exit(1);
        }
    }
}
