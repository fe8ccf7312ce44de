/** Files with a fault, read by an object that has read another one well before. */
final class Faulty {
    private static final String NOTHING = Look.reading(new DviBytes());
    private static final byte[] GOOD = Files.begun().font(1).page(5).add(172, 65, 141, 142, 140).last().veryLast(4)
            .row();

    private Faulty() {
    }

    /** The fault and its place; nothing is read, and the input stays. */
    static void file(String what, int fault, int place, Files file) {
        DviBytes x = new DviBytes();
        Files.feed(x, GOOD);
        x.read();
        Files.feed(x, file.row());
        Expect.same(what, 100000 * fault + place, x::read);
        Expect.same(what + ": nothing is read", NOTHING, () -> Look.reading(x));
        Expect.same(what + ": the input stays", true, () -> x.keep(file.length()) && !x.keep(file.length() + 1));
        Expect.same(what + ", again", 100000 * fault + place, x::read);
    }
}
