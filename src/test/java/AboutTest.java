/** Promise 16: about. */
public final class AboutTest {
    public static void main(String[] args) {
        each();
        whatIsNotTold();
        nothingRead();
        marks();
        pages();
        fonts();
        magnification();
        greatest();
        depth();
        Expect.end();
    }

    private static Files busy() {
        return Files.begun().font(1).page(5).add(141, 141, 142, 142, 172, 1, 2).add(140)
                .page(6).add(141, 172, 1, 142, 140).last();
    }

    private static String about(DviBytes x) {
        StringBuilder text = new StringBuilder();
        for (int what = 0; what <= 6; what++) {
            text.append(what > 0 ? " " : "").append(x.about(what));
        }
        return text.toString();
    }

    private static String read(Files f) {
        DviBytes x = f.fed();
        int answer = x.read();
        return answer == 0 ? about(x) : "fault " + answer;
    }

    private static void each() {
        Expect.same("marks, pages, fonts, magnification, v, h, depth", "3 2 1 1000 -11 12 2",
                () -> read(busy().veryLast(4)));
        Expect.same("a file without pages", "0 0 0 1000 -11 12 0", () -> read(Files.begun().last().veryLast(4)));
    }

    private static void whatIsNotTold() {
        for (int what : new int[] {-1, 7, 8, Integer.MIN_VALUE, Integer.MAX_VALUE}) {
            Twins.outOfBounds("about " + what, x -> {
                Files.feed(x, busy().veryLast(4).row());
                x.read();
            }, x -> x.about(what));
            Twins.outOfBounds("about " + what + " of nothing", x -> { }, x -> x.about(what));
        }
    }

    private static void nothingRead() {
        DviBytes x = new DviBytes();
        Expect.same("a new object", "0 0 0 0 0 0 0", () -> about(x));
        Files.feed(x, busy().veryLast(4).row());
        Expect.same("before it is read", "0 0 0 0 0 0 0", () -> about(x));
        x.read();
        x.keep(0);
        Expect.same("the input has gone", "3 2 1 1000 -11 12 2", () -> about(x));
        x.read();
        Expect.same("a fault", "0 0 0 0 0 0 0", () -> about(x));
        Files.feed(x, busy().veryLast(3).row());
        x.read();
        Expect.same("a fault behind it all", "0 0 0 0 0 0 0", () -> about(x));
    }

    private static void marks() {
        for (int n : new int[] {0, 1, 1999, 2000}) {
            Expect.same(n + " marks", n + " 1 1 1000 -11 12 0",
                    () -> read(Files.inPage().font(1).add(172).times(n, 65).end()));
            Expect.same(n + " rules", n + " 1 0 1000 -11 12 0",
                    () -> read(Files.inPage().times(n, 137, 0, 0, 0, 1, 0, 0, 0, 1).end()));
        }
        Expect.same("rules that are no marks", "0 1 0 1000 -11 12 0",
                () -> read(Files.inPage().add(137).four(0, 1).add(137).four(1, 0).add(132).four(-1, 5).end()));
    }

    private static void pages() {
        for (int n : new int[] {0, 1, 255, 256, 257, 1299, 1300}) {
            Files f = Files.begun();
            for (int i = 0; i < n; i++) {
                f.page(i).add(140);
            }
            Expect.same(n + " pages", "0 " + n + " 0 1000 -11 12 0", () -> read(f.last().veryLast(4)));
        }
    }

    private static void fonts() {
        for (int n : new int[] {0, 1, 255, 256}) {
            Files f = Files.begun();
            for (int i = 0; i < n; i++) {
                f.font(i).font(i);
            }
            f.last();
            for (int i = n - 1; i >= 0; i--) {
                f.font(i);
            }
            Expect.same(n + " fonts, told three times", "0 0 " + n + " 1000 -11 12 0", () -> read(f.veryLast(4)));
        }
    }

    private static String withScale(int numerator, int denominator, int magnification) {
        return read(new Files().add(247, 2).four(numerator, denominator, magnification).add(0)
                .add(248).four(-1, numerator, denominator, magnification, 5, 6, 0).add(249).four(15).add(2)
                .times(4, 223));
    }

    private static void magnification() {
        for (int n : new int[] {0, 1, -1, 255, 256, Integer.MAX_VALUE, Integer.MIN_VALUE}) {
            Expect.same("magnification " + n, "0 0 0 " + n + " 5 6 0", () -> withScale(7, 8, n));
            Expect.same("numerator " + n, "0 0 0 9 5 6 0", () -> withScale(n, 8, 9));
            Expect.same("denominator " + n, "0 0 0 9 5 6 0", () -> withScale(7, n, 9));
        }
    }

    /** What 248 says counts, whatever stands on the pages. */
    private static void greatest() {
        for (int n : new int[] {0, 1, -1, 255, 256, Integer.MAX_VALUE, Integer.MIN_VALUE}) {
            Expect.same("v of " + n, "0 1 0 1000 " + n + " 7 0", () -> read(withGreatest(n, 7)));
            Expect.same("h of " + n, "0 1 0 1000 7 " + n + " 0", () -> read(withGreatest(7, n)));
        }
    }

    private static Files withGreatest(int v, int h) {
        return Files.inPage().add(143, 99, 157, 99, 140).add(248).four(15, Files.NUMERATOR, Files.DENOMINATOR, 1000)
                .four(v, h).add(255, 255, 0, 1).add(249).four(65).add(2).times(4, 223);
    }

    /** The greatest that there was, whatever 248 says. */
    private static void depth() {
        for (int n : new int[] {0, 1, 2, 99, 100}) {
            Expect.same("depth " + n, "0 1 0 1000 -11 12 " + n,
                    () -> read(Files.inPage().times(n, 141).times(n, 142).end()));
        }
        Expect.same("the same depth again", "0 1 0 1000 -11 12 1",
                () -> read(Files.inPage().add(141, 142, 141, 142, 141, 142).end()));
        Expect.same("on the first page", "0 2 0 1000 -11 12 3", () -> read(Files.inPage().times(3, 141).times(3, 142)
                .add(140).page(0).add(141, 142).end()));
        Expect.same("on the last page", "0 2 0 1000 -11 12 3", () -> read(Files.inPage().add(141, 142, 140).page(0)
                .times(3, 141).times(3, 142).end()));
        DviBytes x = Files.inPage().times(3, 141).times(3, 142).end().fed();
        x.read();
        Files.feed(x, Files.inPage().end().row());
        x.read();
        Expect.same("not that of the former file", 0, () -> x.about(6));
    }
}
