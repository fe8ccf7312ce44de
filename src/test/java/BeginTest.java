/** Promise 5: begin. */
public final class BeginTest {
    public static void main(String[] args) {
        comments();
        wrongOnes();
        nothingIsWritten();
        noMarks();
        newSums();
        whatStays();
        Expect.end();
    }

    private static void comments() {
        for (int c : new int[] {0, 1, 127, 128, 254, 255}) {
            for (int n : new int[] {0, 1, 127, 128, 254, 255}) {
                DviBytes x = new DviBytes();
                Expect.done("begin " + c + ", " + n, () -> x.begin(c, n));
                Expect.same("nothing is written", 0, x::size);
                x.ship();
                String due = new Files().add(247, 2).four(25400000, 473628672, 1000).add(n).times(n, c).add(139).text();
                Expect.same("comment " + c + ", " + n, due, () -> Files.written(x, 0, 16 + n));
                x.begin(c, n);
                x.close();
                Expect.same("without pages", due.substring(0, due.length() - 3) + "248",
                        () -> Files.written(x, 0, 16 + n));
            }
        }
        DviBytes x = new DviBytes();
        x.begin(5, 9);
        x.begin(6, 1);
        x.ship();
        Expect.same("the latest comment", "1 6 139", () -> Files.written(x, 14, 17));
        x.begin(6, 0);
        x.ship();
        Expect.same("no comment again", "0 139", () -> Files.written(x, 14, 16));
    }

    /** A file with a page, a comment, a font told in it, and a mark on the next page. */
    private static void busy(DviBytes x) {
        x.font(1, 2, 3, 4, 'a', 0, 1);
        x.begin(8, 3);
        x.put(1, 65, 1000, 2000);
        x.ship();
        x.rule(5, 6, 7, 8);
    }

    private static void wrongOnes() {
        for (int n : new int[] {-1, 256, 65536, Integer.MIN_VALUE, Integer.MAX_VALUE}) {
            Twins.illegalArgument("n " + n, BeginTest::busy, x -> x.begin(0, n));
            Twins.illegalArgument("c " + n, BeginTest::busy, x -> x.begin(n, 0));
            Twins.illegalArgument("c " + n + ", with 255 of them", BeginTest::busy, x -> x.begin(n, 255));
            Twins.illegalArgument("n " + n + ", before anything is written", x -> x.begin(8, 3), x -> x.begin(1, n));
            Twins.illegalArgument("c " + n + ", in a closed file", x -> {
                busy(x);
                x.close();
            }, x -> x.begin(n, 2));
        }
    }

    private static void nothingIsWritten() {
        DviBytes x = new DviBytes();
        busy(x);
        x.begin(0, 0);
        Expect.same("behind an open file", 0, x::size);
        Expect.outOfBounds("behind an open file", () -> x.out(0));
        busy(x);
        x.close();
        x.begin(0, 0);
        Expect.same("behind a closed file", 0, x::size);
        Expect.outOfBounds("behind a closed file", () -> x.out(0));
        Expect.same("nothing to copy", 0, x::copy);
        Expect.same("it can be written again", 1, x::ship);
        Expect.same("it can be closed again", 104, x::close);
    }

    private static void noMarks() {
        DviBytes x = new DviBytes();
        for (int i = 0; i < 500; i++) {
            x.rule(0, 0, 1, 1);
        }
        x.begin(0, 0);
        Expect.same("a full page is empty", 1, () -> x.rule(0, 0, 1, 1));
        x.begin(0, 0);
        Expect.same("a page without marks", 1, x::ship);
        Expect.same("no marks are written", "141 142 140", () -> Files.written(x, 60, 63));
    }

    /** The number of pages, the former page, fonts told in the file and the greatest v and h begin anew. */
    private static void newSums() {
        DviBytes x = new DviBytes();
        busy(x);
        x.ship();
        x.begin(0, 0);
        x.put(1, 65, 0, 0);
        Expect.same("pages", 1, x::ship);
        Expect.same("no former page", "255 255 255 255", () -> Files.written(x, 56, 60));
        Expect.same("the font is told again", new Files().font(1, 2, 3, 4, "", "a").add(172, 65).text(),
                () -> Files.marksOf(x));
        int place = x.size();
        x.close();
        String due = new Files().add(248).four(15, 25400000, 473628672, 1000, 0, 0).add(0, 1, 0, 1)
                .font(1, 2, 3, 4, "", "a").add(249).four(place).add(2).text();
        Expect.same("the end", due, () -> Files.written(x, place, place + 29 + 17 + 6));
        x.begin(0, 0);
        x.close();
        due = new Files().add(248).four(-1, 25400000, 473628672, 1000, 0, 0, 0).add(249).four(15).text();
        Expect.same("a file without pages behind one with pages", due, () -> Files.written(x, 15, 49));
    }

    private static void whatStays() {
        DviBytes x = new DviBytes();
        busy(x);
        x.width(1, 65, 40);
        x.count(2, 3);
        x.close();
        x.copy();
        x.read();
        String reading = Look.reading(x);
        int input = Look.inputLength(x);
        x.begin(0, 0);
        Expect.same("what was read", reading, () -> Look.reading(x));
        Expect.same("the input", input, () -> Look.inputLength(x));
        x.put(1, 65, 0, 0);
        x.put(1, 66, 40, 0);
        x.ship();
        String due = new Files().first(0).add(139).four(0, 0, 3, 0, 0, 0, 0, 0, 0, 0, -1).add(141)
                .font(1, 2, 3, 4, "", "a").add(172, 65, 66, 142, 140).text();
        Expect.same("fonts, widths and counts", due, () -> Files.text(Files.written(x)));
        Expect.same("what was read, by the width of now", 0, x::read);
    }
}
