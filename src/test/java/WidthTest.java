/** Promise 3: width, and what the width of a character is where one is written or read. */
public final class WidthTest {
    private static final int[] EDGES = {0, 1, 254, 255};

    public static void main(String[] args) {
        fontsAndCharacters();
        wrongOnes();
        anyWidth();
        ofAFontNotTold();
        fromNowOn();
        whenThePageIsWritten();
        whenTheFileIsRead();
        whatHasNone();
        Expect.end();
    }

    /** Behind each of the characters at the edges h is what was told of it alone. */
    private static void fontsAndCharacters() {
        for (int f : EDGES) {
            for (int c : EDGES) {
                DviBytes x = new DviBytes();
                Expect.done("width of " + f + ", " + c, () -> x.width(f, c, 77));
                Files file = Files.inPage();
                StringBuilder due = new StringBuilder();
                int h = 0;
                for (int font : EDGES) {
                    file.font(font).add(235, font);
                    for (int character : EDGES) {
                        file.add(128, character);
                        due.append(h).append(' ');
                        h += font == f && character == c ? 77 : 0;
                    }
                }
                Files.feed(x, file.end().row());
                x.read();
                Expect.same("h with the width of " + f + ", " + c, due, () -> allH(x));
            }
        }
    }

    private static String allH(DviBytes x) {
        StringBuilder text = new StringBuilder();
        for (int i = 0; i < x.about(0); i++) {
            text.append(x.mark(i, 3)).append(' ');
        }
        return text.toString();
    }

    private static void wrongOnes() {
        int[] wrong = {-1, 256, -256, 65536, Integer.MIN_VALUE, Integer.MAX_VALUE};
        for (int n : wrong) {
            for (int good : EDGES) {
                Twins.illegalArgument("font " + n, x -> x.width(0, 0, 5), x -> x.width(n, good, 9));
                Twins.illegalArgument("character " + n, x -> x.width(0, 0, 5), x -> x.width(good, n, 9));
            }
            Twins.illegalArgument("both " + n, x -> x.width(0, 0, 5), x -> x.width(n, n, 9));
        }
    }

    private static void anyWidth() {
        for (int w : new int[] {0, 1, -1, 1000000001, Integer.MAX_VALUE, Integer.MIN_VALUE}) {
            DviBytes x = Files.inPage().font(1).add(172, 65, 66).end().fed();
            Expect.done("width " + w, () -> x.width(1, 65, w));
            Expect.same("read with width " + w, 0, x::read);
            Expect.same("h with width " + w, "0 " + w + " ", () -> allH(x));
        }
    }

    private static void ofAFontNotTold() {
        DviBytes x = new DviBytes();
        Expect.done("a font that nobody told", () -> x.width(9, 65, 30));
        x.font(9, 1, 2, 3, 'a', 0, 1);
        x.put(9, 65, 0, 0);
        x.put(9, 65, 30, 0);
        x.ship();
        Expect.same("it is known when the font is told", new Files().font(9, 1, 2, 3, "", "a").add(180, 65, 65).text(),
                () -> Files.marksOf(x));
    }

    private static void fromNowOn() {
        DviBytes x = Files.inPage().font(1).add(172, 65, 66).end().fed();
        x.width(1, 65, 5);
        x.width(1, 65, 6);
        x.read();
        Expect.same("the latest", "0 6 ", () -> allH(x));
        x.font(1, 1, 2, 3, 'a', 0, 1);
        x.begin(0, 0);
        x.read();
        Expect.same("font() and begin() leave it", "0 6 ", () -> allH(x));
        x.width(1, 65, 0);
        x.read();
        Expect.same("0 again", "0 0 ", () -> allH(x));
    }

    private static void whenThePageIsWritten() {
        DviBytes x = new DviBytes();
        x.font(0, 7, 8, 9, 'a', 0, 1);
        x.width(0, 255, 30);
        x.put(0, 255, 0, 0);
        x.put(0, 255, 50, 0);
        x.put(0, 254, 100, 0);
        x.put(0, 254, 101, 0);
        x.width(0, 255, 40);
        x.ship();
        Expect.same("the width at the ship counts", new Files().font(0, 7, 8, 9, "", "a").add(171, 128, 255)
                .add(148, 10, 128, 255, 147, 128, 254, 143, 1, 128, 254).text(), () -> Files.marksOf(x));
        int size = x.size();
        x.width(0, 255, 50);
        Expect.same("what is written stays", size, x::size);
    }

    private static void whenTheFileIsRead() {
        DviBytes x = Files.inPage().font(1).add(172, 65, 66).end().fed();
        x.width(1, 65, 5);
        x.read();
        x.width(1, 65, 6);
        Expect.same("what was read stays", "0 5 ", () -> allH(x));
        x.read();
        Expect.same("read again", "0 6 ", () -> allH(x));
    }

    /** 0 for what width() can't tell: other fonts than 0 .. 255, other characters than 0 .. 255. */
    private static void whatHasNone() {
        DviBytes x = new DviBytes();
        for (int f = 0; f < 256; f++) {
            for (int c = 0; c < 256; c++) {
                x.width(f, c, 1000);
            }
        }
        Files file = Files.inPage().font(1).font(255);
        for (int f : new int[] {256, 65536, 16777217, -1, -256, Integer.MIN_VALUE, Integer.MAX_VALUE}) {
            file.add(246).four(f, 1, 2, 3).add(0, 0).add(238).four(f).add(65, 128, 255);
        }
        file.add(172).add(129, 1, 0, 130, 1, 0, 0, 130, 0, 1, 65, 131).four(256).add(131).four(-1).add(131).four(-191)
                .add(131).four(Integer.MIN_VALUE).add(131).four(Integer.MAX_VALUE);
        Files.feed(x, file.add(1).end().row());
        Expect.same("read", 0, x::read);
        Expect.same("nothing has a width", "0 ".repeat(23), () -> allH(x));
        Files.feed(x, Files.inPage().font(255).add(238).four(255).add(131).four(255).add(131).four(0).add(1).end()
                .row());
        x.read();
        Expect.same("the last that has one", "0 1000 2000 ", () -> allH(x));
    }
}
