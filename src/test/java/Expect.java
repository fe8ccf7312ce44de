/** Counts and prints the answers that are not the ones due. */
final class Expect {
    interface Call {
        Object answer();
    }

    private static int wrong = 0;

    private Expect() {
    }

    /** The answer of a call, or the name of the exception that it throws. */
    static String answerOf(Call call) {
        try {
            return String.valueOf(call.answer());
        } catch (RuntimeException e) {
            return e.getClass().getSimpleName();
        }
    }

    static void same(String what, Object due, Call call) {
        String got = answerOf(call);
        if (!got.equals(String.valueOf(due))) {
            wrong++;
            if (wrong <= 50) {
                System.out.println(what + ": answered " + got + ", due is " + due);
            }
        }
    }

    static void illegalArgument(String what, Call call) {
        same(what, "IllegalArgumentException", call);
    }

    static void illegalState(String what, Call call) {
        same(what, "IllegalStateException", call);
    }

    static void unsupported(String what, Call call) {
        same(what, "UnsupportedOperationException", call);
    }

    static void arithmetic(String what, Call call) {
        same(what, "ArithmeticException", call);
    }

    static void outOfBounds(String what, Call call) {
        same(what, "IndexOutOfBoundsException", call);
    }

    static int wrongMany() {
        return wrong;
    }

    static void end() {
        if (wrong > 0) {
            System.out.println(wrong + " answers are not as due");
            System.exit(1);
        }
    }
}
