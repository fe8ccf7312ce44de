/** Promise 9: close, and how a file is CLOSED. */
public final class CloseTest {
    private static final int FAR = 1000000000;

    public static void main(String[] args) {
        withoutPages();
        dividedByFour();
        closedTwice();
        marksStay();
        whereTheLastPageBegins();
        greatestV();
        greatestH();
        allPagesCount();
        manyPages();
        fontOnALatePage();
        fontsOfTheFile();
        allFonts();
        Expect.end();
    }

    private static void withoutPages() {
        DviBytes x = new DviBytes();
        Expect.same("no pages", 56, x::close);
        String due = Files.begun().add(248).four(-1, Files.NUMERATOR, Files.DENOMINATOR, 1000, 0, 0, 0)
                .add(249).four(15).add(2).times(6, 223).text();
        Expect.same("a file without pages", due, () -> Files.text(Files.written(x)));
        x.begin(77, 3);
        Expect.same("no pages, a comment", 60, x::close);
        due = new Files().add(247, 2).four(Files.NUMERATOR, Files.DENOMINATOR, 1000).add(3, 77, 77, 77)
                .add(248).four(-1, Files.NUMERATOR, Files.DENOMINATOR, 1000, 0, 0, 0)
                .add(249).four(18).add(2).times(7, 223).text();
        Expect.same("a file without pages, but with a comment", due, () -> Files.text(Files.written(x)));
        DviBytes y = new DviBytes();
        y.font(1, 2, 3, 4, 'a', 0, 1);
        y.put(1, 65, 100, 100);
        Expect.same("no pages, but a mark", 56, y::close);
        Expect.same("it counts nowhere", "0 0 0 0 0 0 0 0 0 0 0 0 249", () -> Files.written(y, 32, 45));
    }

    /** Four bytes 223, and up to three more. */
    private static void dividedByFour() {
        for (int n = 0; n <= 255; n++) {
            int comment = n;
            DviBytes x = new DviBytes();
            x.begin(0, n);
            int fourth = 15 + n + 29 + 6 + 4;
            int due = fourth + (4 - fourth % 4) % 4;
            Expect.same("a comment of " + n, due, x::close);
            Expect.same("size with a comment of " + n, due, x::size);
            String fillers = new Files().add(2).times(due - fourth + 4, 223).text();
            Expect.same("223 with a comment of " + n, fillers, () -> Files.written(x, 49 + comment, due));
        }
    }

    private static void closedTwice() {
        Twins.illegalState("closed without pages", DviBytes::close, DviBytes::close);
        Twins.illegalState("closed with a page, and a mark on the next", x -> {
            x.font(1, 2, 3, 4, 'a', 0, 1);
            x.put(1, 65, 100, 100);
            x.ship();
            x.rule(1, 2, 3, 4);
            x.close();
        }, DviBytes::close);
        DviBytes x = new DviBytes();
        x.close();
        Expect.illegalState("closed", x::close);
        Expect.illegalState("closed again", x::close);
        x.begin(0, 0);
        Expect.same("a new file", 56, x::close);
    }

    private static void marksStay() {
        DviBytes x = new DviBytes();
        x.rule(1, 2, 3, 4);
        x.close();
        Expect.same("marks of a page that is not written stay", 2, () -> x.rule(0, 0, 1, 1));
        Expect.illegalState("but it does not ship", x::ship);
        Expect.same("nor is it emptied", 3, () -> x.rule(0, 0, 1, 1));
        x.begin(0, 0);
        Expect.same("until a new file begins", 1, () -> x.rule(0, 0, 1, 1));
    }

    private static void whereTheLastPageBegins() {
        DviBytes x = new DviBytes();
        for (int pages = 1; pages <= 3; pages++) {
            int many = pages;
            x.begin(0, 0);
            for (int i = 0; i < pages; i++) {
                x.ship();
            }
            int place = 15 + 48 * many;
            x.close();
            String due = new Files().add(248).four(15 + 48 * (many - 1)).text();
            Expect.same("the last of " + pages + " pages", due, () -> Files.written(x, place, place + 5));
            Expect.same("its depth, and pages", "0 1 0 " + many, () -> Files.written(x, place + 25, place + 29));
            Expect.same("249 says where 248 is", new Files().add(249).four(place).add(2).text(),
                    () -> Files.written(x, place + 29, place + 35));
        }
    }

    /** What 248 says of the greatest v or h of a page. */
    private static int greatest(DviBytes x, int what) {
        x.ship();
        x.close();
        x.copy();
        return x.read() == 0 ? x.about(what) : -1;
    }

    private static void greatestV() {
        for (int y : new int[] {0, 1, FAR, -1, -FAR}) {
            DviBytes x = new DviBytes();
            x.rule(0, y, FAR, FAR);
            Expect.same("v of a rule at " + y, Math.max(0, y), () -> greatest(x, 4));
            DviBytes z = new DviBytes();
            z.font(1, 2, 3, 4, 'a', 0, 1);
            z.put(1, 65, 0, y);
            Expect.same("v of a character at " + y, Math.max(0, y), () -> greatest(z, 4));
        }
        for (int i = 0; i < 3; i++) {
            DviBytes x = new DviBytes();
            for (int k = 0; k < 3; k++) {
                x.rule(0, k == i ? 30 : 20, 1, 1);
            }
            Expect.same("v of mark " + i + " of 3", 30, () -> greatest(x, 4));
        }
    }

    private static void greatestH() {
        for (int at : new int[] {0, 1, FAR, -1, -FAR}) {
            DviBytes x = new DviBytes();
            x.rule(at, 0, FAR, FAR);
            Expect.same("h behind a rule at " + at, Math.max(0, at), () -> greatest(x, 5));
            for (int w : new int[] {0, 5, -5, Integer.MAX_VALUE - FAR, Integer.MIN_VALUE + FAR}) {
                DviBytes z = new DviBytes();
                z.font(1, 2, 3, 4, 'a', 0, 1);
                z.width(1, 65, w);
                z.put(1, 65, at, 0);
                Expect.same("h behind a width of " + w + " at " + at, Math.max(0, at + w), () -> greatest(z, 5));
            }
        }
        for (int i = 0; i < 3; i++) {
            DviBytes x = new DviBytes();
            for (int k = 0; k < 3; k++) {
                x.rule(k == i ? 30 : 20, 0, 1, 1);
            }
            Expect.same("h of mark " + i + " of 3", 30, () -> greatest(x, 5));
        }
    }

    private static void allPagesCount() {
        DviBytes x = new DviBytes();
        x.rule(50, 10, 1, 1);
        x.ship();
        x.rule(40, 20, 1, 1);
        x.ship();
        x.rule(30, 15, 1, 1);
        Expect.same("the greatest h of the first page", 50, () -> greatest(x, 5));
        Expect.same("the greatest v of the second", 20, () -> x.about(4));
        x.begin(0, 0);
        x.rule(50, 10, 1, 1);
        x.begin(0, 0);
        x.rule(6, 5, 1, 1);
        x.ship();
        x.rule(70, 80, 1, 1);
        x.close();
        x.copy();
        x.read();
        Expect.same("pages that are not written do not count", "5 6", () -> x.about(4) + " " + x.about(5));
    }

    private static void manyPages() {
        for (int pages : new int[] {255, 256, 257, 500}) {
            DviBytes x = new DviBytes();
            for (int i = 1; i <= pages; i++) {
                int due = i;
                Expect.same("page " + i, due, x::ship);
            }
            int place = x.size();
            x.close();
            Expect.same("248 with " + pages + " pages", new Files().add(0, 1, pages >> 8, pages).text(),
                    () -> Files.written(x, place + 25, place + 29));
            x.copy();
            Expect.same("read with " + pages + " pages", 0, x::read);
            Expect.same("about " + pages + " pages", pages, () -> x.about(1));
        }
    }

    /** A font that comes first on a late page is told there, and at the end, as on any. */
    private static void fontOnALatePage() {
        DviBytes x = new DviBytes();
        x.font(7, 1, 2, 3, 'a', 0, 1);
        for (int i = 0; i < 300; i++) {
            x.ship();
        }
        int late = x.size();
        x.put(7, 65, 0, 0);
        x.ship();
        x.put(7, 66, 0, 0);
        x.ship();
        String font = new Files().font(7, 1, 2, 3, "", "a").text();
        Expect.same("it is told", font + " 178 65", () -> Files.written(x, late + 46, late + 46 + 19));
        Expect.same("and not again", "141 178 66 142 140", () -> Files.written(x, x.size() - 5, x.size()));
        Expect.illegalState("it was told in the file", () -> x.font(7, 1, 2, 3, 'b', 0, 1));
        int place = x.size();
        x.close();
        Expect.same("and at the end", font + " 249", () -> Files.written(x, place + 29, place + 29 + 18));
    }

    private static void fontsOfTheFile() {
        DviBytes x = new DviBytes();
        for (int f : new int[] {1, 2, 3, 200}) {
            x.font(f, f, 2, 3, 'a' + f % 9, 0, 1);
        }
        x.put(200, 0, 0, 0);
        x.put(1, 0, 0, 0);
        x.put(200, 0, 0, 0);
        x.ship();
        x.put(3, 0, 0, 0);
        x.put(1, 0, 0, 0);
        x.ship();
        x.put(2, 0, 0, 0);
        int place = x.size();
        x.close();
        String due = new Files().font(3, 3, 2, 3, "", "d").font(1, 1, 2, 3, "", "b").font(200, 200, 2, 3, "", "c")
                .add(249).four(place).text();
        Expect.same("those of written pages, the last one first", due,
                () -> Files.written(x, place + 29, place + 29 + 3 * 17 + 5));
    }

    /** More calls than an object is used for. */
    private static void allFonts() {
        DviBytes x = new DviBytes();
        for (int f = 0; f < 256; f++) {
            x.font(f, f, 2, 3, 0x6867666564636261L, 0x706f6e6d6c6b6a69L, 16);
            x.put(f, 0, 0, 0);
        }
        x.ship();
        int place = x.size();
        x.close();
        Files due = new Files();
        for (int f = 255; f >= 0; f--) {
            due.font(f, f, 2, 3, "", "abcdefghijklmnop");
        }
        Expect.same("256 fonts", due.text(), () -> Files.written(x, place + 29, place + 29 + 256 * 32));
        x.copy();
        Expect.same("256 fonts, read", 0, x::read);
        Expect.same("256 fonts, about", 256, () -> x.about(2));
    }
}
