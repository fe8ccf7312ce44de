/** Promises 10 and 11: size and out. */
public final class SizeAndOutTest {
    public static void main(String[] args) {
        howMany();
        eachByte();
        noSuchByte();
        Expect.end();
    }

    private static void howMany() {
        DviBytes x = new DviBytes();
        Expect.same("nothing", 0, x::size);
        x.begin(1, 255);
        x.font(1, 2, 3, 4, 'a', 0, 1);
        x.put(1, 65, 1, 1);
        Expect.same("nothing before the page is written", 0, x::size);
        x.ship();
        Expect.same("a page", 15 + 255 + 48 + 17 + 2 + 4, x::size);
        x.ship();
        Expect.same("two pages", 341 + 48, x::size);
        x.rule(0, 0, 1, 1);
        x.copy();
        x.read();
        x.keep(3);
        Expect.same("only what is written counts", 389, x::size);
        Expect.same("closed", 389 + 29 + 17 + 6 + 7, x::close);
        Expect.same("closed, size", 448, x::size);
        x.begin(0, 0);
        Expect.same("a new file", 0, x::size);
    }

    private static void eachByte() {
        DviBytes x = new DviBytes();
        for (int i = 0; i < 256; i++) {
            int c = i;
            x.begin(i, 1);
            x.close();
            Expect.same("byte " + i, c, () -> x.out(15));
        }
        Expect.same("the first byte", 247, () -> x.out(0));
        Expect.same("the last byte", 223, () -> x.out(x.size() - 1));
        x.copy();
        x.keep(0);
        x.feed(0, 8);
        Expect.same("it is not the input's", 247, () -> x.out(0));
    }

    private static void page(DviBytes x) {
        x.ship();
    }

    private static void noSuchByte() {
        for (int i : new int[] {-1, 0, 1, Integer.MIN_VALUE, Integer.MAX_VALUE}) {
            Twins.outOfBounds("out " + i + " of nothing", x -> { }, x -> x.out(i));
        }
        for (int i : new int[] {-1, 63, 64, 69999, 70000, 70001, Integer.MIN_VALUE, Integer.MAX_VALUE}) {
            Twins.outOfBounds("out " + i + " of 63", SizeAndOutTest::page, x -> x.out(i));
        }
        DviBytes x = new DviBytes();
        x.ship();
        Expect.same("out 62 of 63", 140, () -> x.out(62));
        x.close();
        Expect.same("out 63 of 104", 248, () -> x.out(63));
        Expect.same("out 103 of 104", 223, () -> x.out(103));
        Expect.outOfBounds("out 104 of 104", () -> x.out(104));
        x.begin(0, 0);
        Expect.outOfBounds("what was written before begin()", () -> x.out(0));
        Expect.outOfBounds("nor behind it", () -> x.out(62));
    }
}
