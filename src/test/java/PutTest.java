/** Promise 6: put. */
public final class PutTest {
    private static final int FAR = 1000000000;

    public static void main(String[] args) {
        fontsAndCharacters();
        wrongFonts();
        wrongCharacters();
        places();
        howMany();
        fullPage();
        argumentsComeFirst();
        inAClosedFile();
        Expect.end();
    }

    private static void told(DviBytes x) {
        x.font(0, 1, 2, 3, 'a', 0, 1);
        x.font(255, 1, 2, 3, 'b', 0, 1);
        x.put(0, 1, 2, 3);
    }

    private static void full(DviBytes x) {
        told(x);
        for (int i = 2; i <= 500; i++) {
            x.put(255, 65, i, i);
        }
    }

    private static void fontsAndCharacters() {
        for (int f : new int[] {0, 255}) {
            for (int c : new int[] {0, 127, 128, 255}) {
                DviBytes x = new DviBytes();
                x.font(f, 7, 8, 9, 'a', 0, 1);
                Expect.same("put " + f + ", " + c, 1, () -> x.put(f, c, 0, 0));
                x.ship();
                x.close();
                x.copy();
                x.read();
                Expect.same("put " + f + ", " + c + ", read", "0 " + f + " " + c + " 0 0 0", () -> Look.marks(x));
            }
        }
    }

    private static void wrongFonts() {
        for (int f : new int[] {-1, 1, 254, 256, 65536, Integer.MIN_VALUE, Integer.MAX_VALUE}) {
            Twins.illegalArgument("font " + f, PutTest::told, x -> x.put(f, 65, 0, 0));
        }
        Twins.illegalArgument("a font that was told wrongly", x -> {
            told(x);
            Expect.illegalArgument("no name", () -> x.font(1, 1, 2, 3, 'a', 0, 0));
        }, x -> x.put(1, 65, 0, 0));
        Twins.illegalArgument("a font with a width alone", x -> x.width(1, 65, 5), x -> x.put(1, 65, 0, 0));
        DviBytes x = new DviBytes();
        told(x);
        x.begin(0, 0);
        Expect.same("a font told before begin()", 1, () -> x.put(0, 0, 0, 0));
    }

    private static void wrongCharacters() {
        for (int c : new int[] {-1, 256, 65536, Integer.MIN_VALUE, Integer.MAX_VALUE}) {
            Twins.illegalArgument("character " + c, PutTest::told, x -> x.put(0, c, 0, 0));
        }
    }

    private static void places() {
        for (int n : new int[] {FAR, -FAR, FAR - 1, 1 - FAR, 0, -1}) {
            DviBytes x = new DviBytes();
            told(x);
            Expect.same("x " + n, 2, () -> x.put(0, 65, n, 7));
            Expect.same("y " + n, 3, () -> x.put(0, 66, 7, n));
            Expect.same("both " + n, 4, () -> x.put(0, 67, n, n));
            x.ship();
            x.close();
            x.copy();
            x.read();
            Expect.same("they are written, " + n, "0 0 1 2 3 0 / 0 0 65 " + n + " 7 0 / 0 0 66 7 " + n + " 0 / 0 0 67 "
                    + n + " " + n + " 0", () -> Look.marks(x));
        }
        for (int n : new int[] {FAR + 1, -FAR - 1, Integer.MAX_VALUE, Integer.MIN_VALUE}) {
            Twins.illegalArgument("x " + n, PutTest::told, x -> x.put(0, 65, n, 0));
            Twins.illegalArgument("y " + n, PutTest::told, x -> x.put(0, 65, 0, n));
        }
    }

    private static void howMany() {
        DviBytes x = new DviBytes();
        x.font(7, 1, 2, 3, 'a', 0, 1);
        for (int i = 1; i <= 500; i++) {
            int due = i;
            Expect.same("mark " + i, due, () -> due % 3 == 0 ? x.rule(0, 0, 1, 1) : x.put(7, 65, 0, 0));
        }
        x.ship();
        Expect.same("a new page", 1, () -> x.put(7, 65, 0, 0));
        x.begin(0, 0);
        Expect.same("a new file", 1, () -> x.put(7, 65, 0, 0));
    }

    private static void fullPage() {
        Twins.unsupported("501 marks", PutTest::full, x -> x.put(0, 65, 0, 0));
        DviBytes x = new DviBytes();
        full(x);
        Expect.unsupported("501", () -> x.put(0, 65, 0, 0));
        Expect.unsupported("501 again", () -> x.put(0, 65, 0, 0));
        Expect.same("the full page ships", 1, x::ship);
        Expect.same("there is room then", 1, () -> x.put(0, 65, 0, 0));
        x.close();
        x.copy();
        x.read();
        Expect.same("all 500 are written", "500 0 255 65 500 500 0", () -> x.about(0) + " " + Look.mark(x, 499));
        DviBytes y = new DviBytes();
        full(y);
        y.width(0, 1, Integer.MAX_VALUE);
        Expect.arithmetic("a full page that does not ship", y::ship);
        Expect.unsupported("is full still", () -> y.put(0, 65, 0, 0));
        y.begin(0, 0);
        Expect.same("until a new file begins", 1, () -> y.put(0, 65, 0, 0));
    }

    private static void argumentsComeFirst() {
        Twins.illegalArgument("font 1, and full", PutTest::full, x -> x.put(1, 65, 0, 0));
        Twins.illegalArgument("character 256, and full", PutTest::full, x -> x.put(0, 256, 0, 0));
        Twins.illegalArgument("x too great, and full", PutTest::full, x -> x.put(0, 65, FAR + 1, 0));
        Twins.illegalArgument("y too small, and full", PutTest::full, x -> x.put(0, 65, 0, -FAR - 1));
    }

    private static void inAClosedFile() {
        DviBytes x = new DviBytes();
        told(x);
        x.close();
        Expect.same("marks come on the page though the file is closed", 2, () -> x.put(0, 65, 0, 0));
        Twins.unsupported("501 marks in a closed file", y -> {
            full(y);
            y.close();
        }, y -> y.put(0, 65, 0, 0));
    }
}
