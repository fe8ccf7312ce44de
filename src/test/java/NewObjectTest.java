/** Promise 1: what a new object is. */
public final class NewObjectTest {
    public static void main(String[] args) {
        noFonts();
        widthsAre0WhenRead();
        widthsAre0WhenWritten();
        countsAre0AndNoComment();
        nothingWritten();
        noPage();
        emptyInput();
        nothingRead();
        oneObjectIsNotAnother();
        Expect.end();
    }

    private static void noFonts() {
        DviBytes x = new DviBytes();
        for (int f = -1; f <= 256; f++) {
            int font = f;
            Expect.illegalArgument("no font " + f, () -> x.put(font, 0, 0, 0));
        }
    }

    private static void widthsAre0WhenRead() {
        DviBytes x = new DviBytes();
        for (int f = 0; f < 256; f++) {
            Files file = Files.inPage().font(f).add(235, f);
            for (int c = 0; c < 256; c++) {
                file.add(128, c);
            }
            Files.feed(x, file.end().row());
            Expect.same("read with font " + f, 0, x::read);
            for (int i = 0; i < 256; i++) {
                int mark = i;
                Expect.same("h of mark " + i + " of font " + f, 0, () -> x.mark(mark, 3));
            }
        }
    }

    private static void widthsAre0WhenWritten() {
        DviBytes x = new DviBytes();
        x.font(255, 0, 0, 0, 'a', 0, 1);
        x.put(255, 255, 0, 0);
        x.put(255, 0, 0, 0);
        x.put(255, 1, 0, 0);
        x.ship();
        Expect.same("no moves between", new Files().font(255, 0, 0, 0, "", "a").add(235, 255, 128, 255, 0, 1).text(),
                () -> Files.marksOf(x));
    }

    private static void countsAre0AndNoComment() {
        DviBytes x = new DviBytes();
        x.ship();
        String due = new Files().first(0).add(139).times(40, 0).four(-1).add(141, 142, 140).text();
        Expect.same("an empty page", due, () -> Files.text(Files.written(x)));
    }

    private static void nothingWritten() {
        DviBytes x = new DviBytes();
        Expect.same("size", 0, x::size);
        Expect.outOfBounds("out 0", () -> x.out(0));
        Expect.outOfBounds("out -1", () -> x.out(-1));
        Expect.same("copy", 0, x::copy);
    }

    private static void noPage() {
        DviBytes x = new DviBytes();
        Expect.same("no marks before the first", 1, () -> x.rule(0, 0, 1, 1));
        Expect.same("no pages before the first", 1, x::ship);
        DviBytes y = new DviBytes();
        Expect.same("it can be closed", 56, y::close);
        Expect.same("no pages when it is closed", "255 255 255 255 0 0 0 0",
                () -> Files.written(y, 16, 20) + " " + Files.written(y, 40, 44));
    }

    private static void emptyInput() {
        DviBytes x = new DviBytes();
        Expect.same("keep 1", false, () -> x.keep(1));
        Expect.same("keep 0", true, () -> x.keep(0));
        Expect.same("read", 200000, x::read);
    }

    private static void nothingRead() {
        DviBytes x = new DviBytes();
        for (int i = 0; i <= 6; i++) {
            int what = i;
            Expect.same("about " + i, 0, () -> x.about(what));
        }
        Expect.outOfBounds("mark", () -> x.mark(0, 0));
        Expect.outOfBounds("page", () -> x.page(0, 0));
        Expect.outOfBounds("told", () -> x.told(0, 0));
    }

    private static void oneObjectIsNotAnother() {
        DviBytes busy = new DviBytes();
        DviBytes other = new DviBytes();
        busy.font(1, 2, 3, 4, 'a', 0, 1);
        busy.width(1, 65, 10);
        busy.count(3, 7);
        busy.begin(9, 9);
        busy.put(1, 65, 20, 30);
        busy.ship();
        busy.rule(5, 5, 5, 5);
        busy.close();
        busy.copy();
        busy.read();
        DviBytes later = new DviBytes();
        String due = Look.through(new DviBytes());
        Expect.same("one that was there before", due, () -> Look.through(other));
        Expect.same("one that is made later", due, () -> Look.through(later));
    }
}
