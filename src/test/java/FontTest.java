/** Promise 2: font. */
public final class FontTest {
    private static final long EIGHT = 0x6867666564636261L;
    private static final long NEXT = 0x706f6e6d6c6b6a69L;
    private static final String LETTERS = "abcdefghijklmnop";

    public static void main(String[] args) {
        numbers();
        lengthsOfNames();
        charactersOfNames();
        whatIsBehindTheName();
        checkAndSizes();
        latestTelling();
        whatItLeaves();
        toldInTheFile();
        notToldInTheFile();
        argumentsComeFirst();
        Expect.end();
    }

    /** What is written of font f if a character 0 of it stands on the first page. */
    private static String definition(DviBytes x, int f) {
        x.begin(0, 0);
        x.put(f, 0, 0, 0);
        x.ship();
        return Files.marksOf(x);
    }

    private static String due(int f, int check, int size, int design, String name) {
        Files file = new Files().font(f, check, size, design, "", name);
        return (f < 64 ? file.add(171 + f) : file.add(235, f)).add(0).text();
    }

    private static void numbers() {
        for (int f = 0; f < 256; f++) {
            int font = f;
            DviBytes x = new DviBytes();
            Expect.done("font " + f, () -> x.font(font, 1, 2, 3, 'a', 0, 1));
            Expect.same("font " + f + " is written", due(f, 1, 2, 3, "a"), () -> definition(x, font));
        }
        for (int f : new int[] {-1, 256, -256, 65536, Integer.MIN_VALUE, Integer.MAX_VALUE}) {
            Twins.illegalArgument("font " + f, x -> x.font(1, 2, 3, 4, 'a', 0, 1), x -> x.font(f, 1, 2, 3, 'b', 0, 1));
        }
    }

    private static void lengthsOfNames() {
        for (int n = 1; n <= 16; n++) {
            int length = n;
            DviBytes x = new DviBytes();
            Expect.done("a name of " + n, () -> x.font(7, 1, 2, 3, EIGHT, NEXT, length));
            Expect.same("a name of " + n + " is written", due(7, 1, 2, 3, LETTERS.substring(0, n)),
                    () -> definition(x, 7));
        }
        for (int n : new int[] {0, -1, 17, 256, 257, Integer.MIN_VALUE, Integer.MAX_VALUE}) {
            Twins.illegalArgument("a name of " + n, x -> x.font(1, 2, 3, 4, 'a', 0, 1),
                    x -> x.font(1, 5, 6, 7, EIGHT, NEXT, n));
            Twins.illegalArgument("a first name of " + n, x -> { }, x -> x.font(1, 5, 6, 7, EIGHT, NEXT, n));
        }
    }

    /** Each character at each place of a name of 16. */
    private static void charactersOfNames() {
        for (int i = 0; i < 16; i++) {
            for (int c = 0; c < 256; c++) {
                long mask = 255L << (8 * (i % 8));
                long letter = (long) c << (8 * (i % 8));
                long name = i < 8 ? EIGHT & ~mask | letter : EIGHT;
                long more = i < 8 ? NEXT : NEXT & ~mask | letter;
                DviBytes x = new DviBytes();
                boolean good = c >= 33 && c <= 126;
                Expect.ends("character " + c + " at " + i, good ? "done" : "IllegalArgumentException",
                        () -> x.font(7, 1, 2, 3, name, more, 16));
                String text = LETTERS.substring(0, i) + (char) c + LETTERS.substring(i + 1);
                Expect.same("character " + c + " at " + i + ", behind it",
                        good ? due(7, 1, 2, 3, text) : "IllegalArgumentException", () -> definition(x, 7));
            }
        }
        for (int c : new int[] {0, 32, 127, 128, 255}) {
            Twins.illegalArgument("character " + c, x -> x.font(1, 2, 3, 4, 'a', 0, 1),
                    x -> x.font(1, 5, 6, 7, c, 0, 1));
            Twins.illegalArgument("ninth character " + c, x -> x.font(1, 2, 3, 4, 'a', 0, 1),
                    x -> x.font(1, 5, 6, 7, EIGHT, c, 9));
        }
    }

    /** Only n characters count. */
    private static void whatIsBehindTheName() {
        for (int n = 1; n < 16; n++) {
            int length = n;
            int unused = 8 * (n % 8);
            long name = n < 8 ? EIGHT | -1L << unused : EIGHT;
            long more = n < 8 ? -1 : n == 8 ? 0 : NEXT & ~(-1L << unused);
            DviBytes x = new DviBytes();
            Expect.done("a name of " + n + " and more", () -> x.font(7, 1, 2, 3, name, more, length));
            Expect.same("it is written without more", due(7, 1, 2, 3, LETTERS.substring(0, n)),
                    () -> definition(x, 7));
            Twins.illegalArgument("one character too many for a name of " + n, y -> { },
                    y -> y.font(7, 1, 2, 3, name, more, length + 1));
        }
    }

    private static void checkAndSizes() {
        int[] numbers = {0, 1, -1, 255, 256, 65536, 16777216, Integer.MAX_VALUE, Integer.MIN_VALUE};
        for (int n : numbers) {
            DviBytes x = new DviBytes();
            x.font(7, n, 2, 3, 'a', 0, 1);
            Expect.same("check " + n, due(7, n, 2, 3, "a"), () -> definition(x, 7));
            DviBytes y = new DviBytes();
            y.font(7, 1, n, 3, 'a', 0, 1);
            Expect.same("size " + n, due(7, 1, n, 3, "a"), () -> definition(y, 7));
            DviBytes z = new DviBytes();
            z.font(7, 1, 2, n, 'a', 0, 1);
            Expect.same("design size " + n, due(7, 1, 2, n, "a"), () -> definition(z, 7));
        }
    }

    private static void latestTelling() {
        DviBytes x = new DviBytes();
        x.font(3, -1, -2, -3, EIGHT, NEXT, 16);
        x.put(3, 5, 0, 0);
        Expect.done("while its marks are on the page", () -> x.font(3, 7, 8, 9, '~', 0, 1));
        x.ship();
        Expect.same("the latest telling is written", new Files().font(3, 7, 8, 9, "", "~").add(174, 5).text(),
                () -> Files.marksOf(x));
    }

    private static void whatItLeaves() {
        DviBytes x = new DviBytes();
        x.width(3, 5, 10);
        x.font(3, 1, 2, 3, 'a', 0, 1);
        x.put(3, 5, 0, 0);
        x.font(3, 4, 5, 6, 'b', 0, 1);
        x.font(4, 4, 5, 6, 'c', 0, 1);
        Expect.same("the marks stay", 2, () -> x.put(3, 5, 10, 0));
        x.ship();
        Expect.same("the widths stay", new Files().font(3, 4, 5, 6, "", "b").add(174, 5, 5).text(),
                () -> Files.marksOf(x));
    }

    private static void withFontInTheFile(DviBytes x) {
        x.font(3, 1, 2, 3, 'a', 0, 1);
        x.put(3, 5, 0, 0);
        x.ship();
    }

    private static void withFontInAClosedFile(DviBytes x) {
        withFontInTheFile(x);
        x.close();
    }

    private static void toldInTheFile() {
        Twins.illegalState("told in the file", FontTest::withFontInTheFile, x -> x.font(3, 7, 8, 9, 'z', 0, 1));
        Twins.illegalState("told again as it was", FontTest::withFontInTheFile, x -> x.font(3, 1, 2, 3, 'a', 0, 1));
        Twins.illegalState("closed", FontTest::withFontInAClosedFile, x -> x.font(3, 7, 8, 9, 'z', 0, 1));
        Twins.illegalState("pages later", x -> {
            withFontInTheFile(x);
            x.ship();
            x.ship();
        }, x -> x.font(3, 7, 8, 9, 'z', 0, 1));
        Twins.illegalState("since begin()", x -> {
            x.begin(0, 0);
            withFontInTheFile(x);
        }, x -> x.font(3, 7, 8, 9, 'z', 0, 1));
        Twins.illegalState("fonts 0 and 255", x -> {
            x.font(0, 1, 2, 3, 'a', 0, 1);
            x.font(255, 1, 2, 3, 'a', 0, 1);
            x.put(0, 0, 0, 0);
            x.put(255, 0, 0, 0);
            x.ship();
            Expect.illegalState("font 0", () -> x.font(0, 1, 2, 3, 'b', 0, 1));
        }, x -> x.font(255, 1, 2, 3, 'b', 0, 1));
    }

    private static void notToldInTheFile() {
        DviBytes x = new DviBytes();
        withFontInTheFile(x);
        Expect.done("another font", () -> x.font(4, 1, 2, 3, 'b', 0, 1));
        x.put(4, 0, 0, 0);
        Expect.done("one that stands on a page that is not written", () -> x.font(4, 7, 8, 9, 'c', 0, 1));
        x.close();
        Expect.done("the file is closed without it", () -> x.font(4, 4, 5, 6, 'd', 0, 1));
        Expect.illegalArgument("a wrong begin() begins nothing", () -> x.begin(0, 256));
        Expect.illegalState("still told", () -> x.font(3, 7, 8, 9, 'z', 0, 1));
        x.begin(0, 0);
        Expect.done("a new file", () -> x.font(3, 7, 8, 9, 'z', 0, 1));
        Expect.same("told anew", due(3, 7, 8, 9, "z"), () -> definition(x, 3));
        Expect.same("the other one too", due(4, 4, 5, 6, "d"), () -> definition(x, 4));
        DviBytes y = new DviBytes();
        withFontInTheFile(y);
        y.begin(0, 0);
        Expect.done("a new file behind one that was not closed", () -> y.font(3, 7, 8, 9, 'z', 0, 1));
    }

    private static void argumentsComeFirst() {
        Twins.illegalArgument("no name, and told in the file", FontTest::withFontInTheFile,
                x -> x.font(3, 7, 8, 9, 'z', 0, 0));
        Twins.illegalArgument("a long name, and told in the file", FontTest::withFontInAClosedFile,
                x -> x.font(3, 7, 8, 9, EIGHT, EIGHT, 17));
        Twins.illegalArgument("a wrong character, and told in the file", FontTest::withFontInTheFile,
                x -> x.font(3, 7, 8, 9, 32, 0, 1));
    }
}
