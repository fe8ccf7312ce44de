/** Promise 7: rule. */
public final class RuleTest {
    private static final int FAR = 1000000000;
    private static final int[] TOO_FAR = {FAR + 1, -FAR - 1, Integer.MAX_VALUE, Integer.MIN_VALUE};
    private static final int[] NO_EXTENT = {0, -1, FAR + 1, -FAR, Integer.MAX_VALUE, Integer.MIN_VALUE};

    public static void main(String[] args) {
        places();
        extents();
        wrongOnes();
        howMany();
        fullPage();
        Expect.end();
    }

    private static void busy(DviBytes x) {
        x.rule(1, 2, 3, 4);
        x.ship();
        x.rule(5, 6, 7, 8);
    }

    private static void full(DviBytes x) {
        for (int i = 1; i <= 500; i++) {
            x.rule(i, -i, i, 501 - i);
        }
    }

    /** What is read of the marks when the page and the file are written. */
    private static String written(DviBytes x) {
        x.ship();
        x.close();
        x.copy();
        x.read();
        return Look.marks(x);
    }

    private static void places() {
        for (int n : new int[] {FAR, -FAR, FAR - 1, 1 - FAR, 0, -1}) {
            DviBytes x = new DviBytes();
            Expect.same("x " + n, 1, () -> x.rule(n, 7, 1, 2));
            Expect.same("y " + n, 2, () -> x.rule(7, n, 1, 2));
            Expect.same("they are written, " + n, "0 -1 1 " + n + " 7 2 / 0 -1 1 7 " + n + " 2", () -> written(x));
        }
    }

    private static void extents() {
        for (int n : new int[] {1, 2, 255, 256, FAR - 1, FAR}) {
            DviBytes x = new DviBytes();
            Expect.same("width " + n, 1, () -> x.rule(0, 0, n, 5));
            Expect.same("height " + n, 2, () -> x.rule(0, 0, 5, n));
            Expect.same("both " + n, 3, () -> x.rule(FAR, 0, n, n));
            Expect.same("they are written, " + n, "0 -1 " + n + " 0 0 5 / 0 -1 5 0 0 " + n + " / 0 -1 " + n + " " + FAR
                    + " 0 " + n, () -> written(x));
        }
    }

    private static void wrongOnes() {
        for (int n : TOO_FAR) {
            Twins.illegalArgument("x " + n, RuleTest::busy, x -> x.rule(n, 0, 1, 1));
            Twins.illegalArgument("y " + n, RuleTest::busy, x -> x.rule(0, n, 1, 1));
            Twins.illegalArgument("x " + n + ", and full", RuleTest::full, x -> x.rule(n, 0, 1, 1));
            Twins.illegalArgument("y " + n + ", and full", RuleTest::full, x -> x.rule(0, n, 1, 1));
        }
        for (int n : NO_EXTENT) {
            Twins.illegalArgument("width " + n, RuleTest::busy, x -> x.rule(0, 0, n, 1));
            Twins.illegalArgument("height " + n, RuleTest::busy, x -> x.rule(0, 0, 1, n));
            Twins.illegalArgument("width " + n + ", and full", RuleTest::full, x -> x.rule(0, 0, n, 1));
            Twins.illegalArgument("height " + n + ", and full", RuleTest::full, x -> x.rule(0, 0, 1, n));
        }
    }

    private static void howMany() {
        DviBytes x = new DviBytes();
        for (int i = 1; i <= 500; i++) {
            int due = i;
            Expect.same("mark " + i, due, () -> x.rule(0, 0, 1, 1));
        }
        x.ship();
        Expect.same("a new page", 1, () -> x.rule(0, 0, 1, 1));
        x.close();
        Expect.same("the page of a closed file", 2, () -> x.rule(0, 0, 1, 1));
    }

    private static void fullPage() {
        Twins.unsupported("501 marks", RuleTest::full, x -> x.rule(0, 0, 1, 1));
        Twins.unsupported("501 marks, the last one a character", x -> {
            x.font(7, 1, 2, 3, 'a', 0, 1);
            full(x);
        }, x -> x.put(7, 65, 0, 0));
        DviBytes x = new DviBytes();
        full(x);
        Expect.unsupported("501", () -> x.rule(0, 0, 1, 1));
        Expect.unsupported("501 again", () -> x.rule(0, 0, 1, 1));
        written(x);
        Expect.same("500 are written", "500 0 -1 500 500 -500 1", () -> x.about(0) + " " + Look.mark(x, 499));
    }
}
