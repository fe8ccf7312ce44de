/** Counts and prints the answers that are not the ones due. */
final class Expect {
    interface Call {
        Object answer();
    }

    interface Deed {
        void done();
    }

    private static int wrong = 0;

    private Expect() {
    }

    /** The answer of a call, or the name of the exception that it throws. */
    static String answerOf(Call call) {
        try {
            return String.valueOf(call.answer());
        } catch (RuntimeException e) {
            return e.getClass().getSimpleName();
        }
    }

    static void same(String what, Object due, Call call) {
        String got = answerOf(call);
        if (!got.equals(String.valueOf(due))) {
            wrong++;
            if (wrong <= 50) {
                System.out.println(what + ": answered " + got + ", due is " + due);
            }
        }
    }

    /** A call that answers nothing, and throws what is due. */
    static void ends(String what, String due, Deed deed) {
        same(what, due, () -> {
            deed.done();
            return "done";
        });
    }

    static void done(String what, Deed deed) {
        ends(what, "done", deed);
    }

    static void illegalArgument(String what, Deed deed) {
        ends(what, "IllegalArgumentException", deed);
    }

    static void illegalState(String what, Deed deed) {
        ends(what, "IllegalStateException", deed);
    }

    static void unsupported(String what, Deed deed) {
        ends(what, "UnsupportedOperationException", deed);
    }

    static void arithmetic(String what, Deed deed) {
        ends(what, "ArithmeticException", deed);
    }

    static void outOfBounds(String what, Deed deed) {
        ends(what, "IndexOutOfBoundsException", deed);
    }

    static int wrongMany() {
        return wrong;
    }

    static void end() {
        if (wrong > 0) {
            System.out.println(wrong + " answers are not as due");
            System.exit(1);
        }
    }
}
