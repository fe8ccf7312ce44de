/** Promise 18: page. */
public final class PageTest {
    public static void main(String[] args) {
        counts();
        noSuchPageOrCount();
        nothingRead();
        manyPages();
        written();
        Expect.end();
    }

    private static void three(DviBytes x) {
        Files.feed(x, Files.inPage().add(140).page(-5).add(140).page(Integer.MAX_VALUE - 9).end().row());
        x.read();
    }

    private static void counts() {
        DviBytes x = new DviBytes();
        three(x);
        int[] first = {0, -5, Integer.MAX_VALUE - 9};
        for (int p = 0; p < 3; p++) {
            for (int i = 0; i < 10; i++) {
                int page = p;
                int count = i;
                Expect.same("page " + p + ", count " + i, first[p] + i, () -> x.page(page, count));
            }
        }
        DviBytes y = Files.begun().add(139).four(Integer.MIN_VALUE, -1, 128, 256, 65536, 0, 0, 0, 0, 1, -1).add(140)
                .add(248).four(15, Files.NUMERATOR, Files.DENOMINATOR, 1000, 0, 0).add(0, 0, 0, 1).add(249).four(61)
                .add(2).times(4, 223).fed();
        Expect.same("read", 0, y::read);
        Expect.same("signed", "-2147483648 -1 128 256 65536 1", () -> y.page(0, 0) + " " + y.page(0, 1) + " "
                + y.page(0, 2) + " " + y.page(0, 3) + " " + y.page(0, 4) + " " + y.page(0, 9));
    }

    private static void noSuchPageOrCount() {
        for (int n : new int[] {-1, 3, 4, 1300, Integer.MIN_VALUE, Integer.MAX_VALUE}) {
            Twins.outOfBounds("page " + n, PageTest::three, x -> x.page(n, 0));
        }
        for (int n : new int[] {-1, 10, 11, Integer.MIN_VALUE, Integer.MAX_VALUE}) {
            Twins.outOfBounds("count " + n, PageTest::three, x -> x.page(0, n));
            Twins.outOfBounds("count " + n + " of the last", PageTest::three, x -> x.page(2, n));
        }
        Twins.outOfBounds("neither", PageTest::three, x -> x.page(-1, 10));
    }

    private static void nothingRead() {
        DviBytes x = new DviBytes();
        Expect.outOfBounds("a new object", () -> x.page(0, 0));
        three(x);
        x.keep(100);
        x.read();
        Expect.outOfBounds("a fault", () -> x.page(0, 0));
        Files.feed(x, Files.begun().last().veryLast(4).row());
        x.read();
        Expect.outOfBounds("a file without pages", () -> x.page(0, 0));
        x.ship();
        Expect.outOfBounds("a page that is written is not read", () -> x.page(0, 0));
    }

    private static void manyPages() {
        Files f = Files.begun();
        for (int i = 0; i < 1300; i++) {
            f.page(10 * i).add(140);
        }
        DviBytes x = f.last().veryLast(4).fed();
        Expect.same("1300 pages", 0, x::read);
        Expect.same("the first and the last", "0 9 12990 12999", () -> x.page(0, 0) + " " + x.page(0, 9) + " "
                + x.page(1299, 0) + " " + x.page(1299, 9));
        Expect.outOfBounds("page 1300", () -> x.page(1300, 0));
        Expect.outOfBounds("count 10 of page 0 is none of page 1", () -> x.page(0, 10));
    }

    private static void written() {
        DviBytes x = new DviBytes();
        x.count(0, 5);
        x.count(9, -6);
        x.ship();
        x.count(0, 7);
        x.ship();
        x.close();
        x.copy();
        x.read();
        Expect.same("counts as count() told them", "5 -6 7 -6", () -> x.page(0, 0) + " " + x.page(0, 9) + " "
                + x.page(1, 0) + " " + x.page(1, 9));
    }
}
