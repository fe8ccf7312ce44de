/** Two objects in the same state: what the one refuses must leave it like the other, which was not asked. */
final class Twins {
    interface Steps {
        void on(DviBytes x);
    }

    interface Question {
        boolean of(DviBytes x);
    }

    private Twins() {
    }

    static void illegalArgument(String what, Steps before, Steps call) {
        unchanged(what, "IllegalArgumentException", before, call);
    }

    static void illegalState(String what, Steps before, Steps call) {
        unchanged(what, "IllegalStateException", before, call);
    }

    static void unsupported(String what, Steps before, Steps call) {
        unchanged(what, "UnsupportedOperationException", before, call);
    }

    static void arithmetic(String what, Steps before, Steps call) {
        unchanged(what, "ArithmeticException", before, call);
    }

    static void outOfBounds(String what, Steps before, Steps call) {
        unchanged(what, "IndexOutOfBoundsException", before, call);
    }

    static void answersFalse(String what, Steps before, Question call) {
        unchanged(what, "done", before, x -> Expect.same(what, false, () -> call.of(x)));
    }

    /** A call that ends so (with "done", or by an exception of that name), and changes nothing. */
    static void unchanged(String what, String due, Steps before, Steps call) {
        DviBytes asked = new DviBytes();
        DviBytes other = new DviBytes();
        before.on(asked);
        before.on(other);
        Expect.ends(what, due, () -> call.on(asked));
        Expect.same(what + ": nothing has changed", Look.through(other), () -> Look.through(asked));
    }
}
