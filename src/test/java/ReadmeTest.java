/** The example of README.md, call by call, answers what its comments say. */
public final class ReadmeTest {
    public static void main(String[] args) {
        DviBytes d = new DviBytes();
        Expect.done("a font", () -> d.font(5, -1, 655360, 655360, 206988012899L, 0L, 5));
        Expect.done("a width", () -> d.width(5, 65, 1000));
        Expect.done("a count", () -> d.count(0, 1));
        Expect.done("a file", () -> d.begin(42, 3));
        Expect.same("an A", 1, () -> d.put(5, 65, 100, 200));
        Expect.same("a rule", 2, () -> d.rule(0, 400, 50, 6));
        Expect.same("a page", 1, d::ship);
        Expect.same("the end", 168, d::close);
        Expect.same("how long it is", 168, d::size);
        Expect.same("its first byte", 247, () -> d.out(0));
        Expect.same("copy", 168, d::copy);
        Expect.same("read", 0, d::read);
        Expect.same("marks", 2, () -> d.about(0));
        Expect.same("h of the first mark", 100, () -> d.mark(0, 3));
        Expect.same("count 0 of the first page", 1, () -> d.page(0, 0));
        Expect.same("the first letter of the first font", (int) 'c', () -> d.told(0, 5));
        Expect.same("keep", true, () -> d.keep(14));
        Expect.same("read what is cut", 100000, d::read);
        Expect.same("nothing is read", 0, () -> d.about(0));
        Expect.same("feed", true, () -> d.feed(0x032A2A2AL, 4));
        Expect.end();
    }
}
