/** Promise 8: ship, but for the moves: how a page is written, and when it is not. */
public final class ShipTest {
    private static final int FAR = 1000000000;
    private static final int MOST = Integer.MAX_VALUE;
    private static final int LEAST = Integer.MIN_VALUE;

    public static void main(String[] args) {
        emptyPages();
        emptyThen();
        fontsAndCharacters();
        fontsOfPages();
        rules();
        downBeforeRight();
        closedFile();
        hPasses();
        hPassesInTheMidst();
        movePasses();
        downNeverPasses();
        ruleAddsNothing();
        arithmeticChangesNothing();
        lengthOf60000();
        tooLongChangesNothing();
        tooLongAfterAnotherFile();
        whichExceptionFirst();
        Expect.end();
    }

    private static void emptyPages() {
        DviBytes x = new DviBytes();
        x.begin(99, 2);
        Expect.same("first page", 1, x::ship);
        x.count(0, 1);
        Expect.same("second page", 2, x::ship);
        Expect.same("third page", 3, x::ship);
        String due = new Files().first(2).add(139).times(40, 0).four(-1).add(141, 142, 140)
                .add(139).four(1).times(36, 0).four(17).add(141, 142, 140)
                .add(139).four(1).times(36, 0).four(65).add(141, 142, 140).text();
        Expect.same("each says where the former began", due, () -> Files.text(Files.written(x)));
    }

    private static void emptyThen() {
        DviBytes x = new DviBytes();
        x.rule(1, 2, 3, 4);
        x.ship();
        int size = x.size();
        x.ship();
        Expect.same("no marks are left", 48, () -> x.size() - size);
        Expect.same("they begin anew", 1, () -> x.rule(1, 2, 3, 4));
    }

    private static void fontsAndCharacters() {
        DviBytes x = new DviBytes();
        for (int f : new int[] {0, 63, 64, 255}) {
            x.font(f, f, 2, 3, 'c', 0, 1);
            x.put(f, 0, 0, 0);
            x.put(f, 127, 0, 0);
            x.put(f, 128, 0, 0);
            x.put(f, 255, 0, 0);
        }
        x.ship();
        String due = new Files().font(0, 0, 2, 3, "", "c").add(171, 0, 127, 128, 128, 128, 255)
                .font(63, 63, 2, 3, "", "c").add(234, 0, 127, 128, 128, 128, 255)
                .font(64, 64, 2, 3, "", "c").add(235, 64, 0, 127, 128, 128, 128, 255)
                .font(255, 255, 2, 3, "", "c").add(235, 255, 0, 127, 128, 128, 128, 255).text();
        Expect.same("the last of each command, and the first", due, () -> Files.marksOf(x));
    }

    private static void fontsOfPages() {
        DviBytes x = new DviBytes();
        x.font(1, 7, 8, 9, 'b', 0, 1);
        x.font(2, 1, 2, 3, 'c', 0, 1);
        x.put(1, 10, 0, 0);
        x.put(2, 11, 0, 0);
        x.rule(0, 0, 1, 1);
        x.put(2, 12, 0, 0);
        x.put(1, 13, 0, 0);
        x.ship();
        String due = new Files().font(1, 7, 8, 9, "", "b").add(172, 10).font(2, 1, 2, 3, "", "c").add(173, 11)
                .add(137).four(1, 1).add(12, 172, 13).text();
        Expect.same("a rule leaves the font; it is told once", due, () -> Files.marksOf(x));
        int size = x.size();
        x.put(1, 14, 0, 0);
        x.ship();
        Expect.same("a new page has no font, but it is told", "141 172 14 142 140",
                () -> Files.written(x, size + 45, x.size()));
    }

    private static void rules() {
        DviBytes x = new DviBytes();
        x.rule(5, 6, 258, FAR);
        x.rule(5, 7, 1, 1);
        x.ship();
        String due = new Files().add(157, 6, 143, 5, 137).four(FAR, 258).add(157, 1, 137).four(1, 1).text();
        Expect.same("height, then width; h stays", due, () -> Files.marksOf(x));
    }

    private static void downBeforeRight() {
        DviBytes x = new DviBytes();
        x.font(0, 7, 8, 9, 'a', 0, 1);
        x.put(0, 65, 3, 4);
        x.put(0, 65, 3, 5);
        x.put(0, 65, 5, 5);
        x.put(0, 65, 5, 5);
        x.ship();
        String due = new Files().add(157, 4, 143, 3).font(0, 7, 8, 9, "", "a").add(171, 65, 157, 1, 65, 143, 2, 65, 65)
                .text();
        Expect.same("moves of 0 are not written; down, right, the font, the character", due, () -> Files.marksOf(x));
    }

    private static void closedFile() {
        Twins.illegalState("closed without pages", DviBytes::close, DviBytes::ship);
        Twins.illegalState("closed with a page, and a mark on the next", x -> {
            x.ship();
            x.rule(0, 0, 1, 1);
            x.close();
        }, DviBytes::ship);
        DviBytes x = new DviBytes();
        x.close();
        Expect.illegalState("closed", x::ship);
        x.begin(0, 0);
        Expect.same("a new file", 1, x::ship);
    }

    private static void withWidth(DviBytes x, int w) {
        x.font(0, 7, 8, 9, 'a', 0, 1);
        x.width(0, 65, w);
    }

    /** A page with one character of a width at x: the last h that is an int, and the first that is not. */
    private static void oneCharacter(int at, int w, boolean good) {
        String what = "a width of " + w + " at " + at;
        if (good) {
            DviBytes x = new DviBytes();
            withWidth(x, w);
            x.put(0, 65, at, 0);
            Expect.same(what, 1, x::ship);
            x.close();
            x.copy();
            Expect.same(what + ", read", 0, x::read);
            Expect.same(what + ", the greatest h", Math.max(0, at + w), () -> x.about(5));
        } else {
            Twins.arithmetic(what, x -> {
                withWidth(x, w);
                x.put(0, 65, at, 0);
            }, DviBytes::ship);
        }
    }

    private static void hPasses() {
        oneCharacter(0, MOST, true);
        oneCharacter(1, MOST, false);
        oneCharacter(1, MOST - 1, true);
        oneCharacter(FAR, MOST - FAR, true);
        oneCharacter(FAR, MOST - FAR + 1, false);
        oneCharacter(FAR, MOST, false);
        oneCharacter(0, LEAST, true);
        oneCharacter(-1, LEAST, false);
        oneCharacter(-1, LEAST + 1, true);
        oneCharacter(-FAR, LEAST + FAR, true);
        oneCharacter(-FAR, LEAST + FAR - 1, false);
        oneCharacter(-FAR, LEAST, false);
        oneCharacter(FAR, LEAST, true);
        oneCharacter(-FAR, MOST, true);
    }

    private static void hPassesInTheMidst() {
        for (int bad = 0; bad < 3; bad++) {
            int wrong = bad;
            Twins.arithmetic("mark " + bad + " of 3", x -> {
                withWidth(x, MOST);
                for (int i = 0; i < 3; i++) {
                    x.put(0, i == wrong ? 65 : 66, 1, 0);
                }
            }, DviBytes::ship);
        }
        DviBytes x = new DviBytes();
        withWidth(x, MOST);
        x.put(0, 65, 1, 0);
        Expect.arithmetic("it passes", x::ship);
        x.width(0, 65, MOST - 1);
        Expect.same("it ships with another width", 1, x::ship);
    }

    /** A character at x with a width w, and a mark at another x behind it. */
    private static void oneMove(int at, int w, int to, boolean good) {
        String what = "from " + at + " and " + w + " to " + to;
        for (int kind = 0; kind < 2; kind++) {
            boolean toRule = kind == 0;
            Twins.Steps steps = x -> {
                withWidth(x, w);
                x.put(0, 65, at, 0);
                if (toRule) {
                    x.rule(to, 0, 1, 1);
                } else {
                    x.put(0, 66, to, 0);
                }
            };
            if (good) {
                DviBytes x = new DviBytes();
                steps.on(x);
                Expect.same(what, 1, x::ship);
                x.close();
                x.copy();
                Expect.same(what + ", read", 0, x::read);
                Expect.same(what + ", where it is", to, () -> x.mark(1, 3));
            } else {
                Twins.arithmetic(what, steps, DviBytes::ship);
            }
        }
    }

    private static void movePasses() {
        oneMove(0, MOST, 0, true);
        oneMove(0, MOST, -1, true);
        oneMove(0, MOST, -2, false);
        oneMove(0, MOST, -FAR, false);
        oneMove(0, LEAST, -1, true);
        oneMove(0, LEAST, 0, false);
        oneMove(0, LEAST, FAR, false);
        oneMove(FAR, LEAST, FAR - 1, true);
        oneMove(FAR, LEAST, FAR, false);
        oneMove(-FAR, MOST, 1 - FAR, true);
        oneMove(0, FAR - MOST, FAR, true);
        oneMove(0, FAR - MOST - 1, FAR, false);
        oneMove(0, -FAR - LEAST, -FAR, true);
        oneMove(0, -FAR - LEAST + 1, -FAR, false);
    }

    private static void downNeverPasses() {
        DviBytes x = new DviBytes();
        x.rule(-FAR, -FAR, 1, 1);
        x.rule(FAR, FAR, 1, 1);
        x.rule(-FAR, -FAR, 1, 1);
        Expect.same("moves of 2000000000 both ways", 1, x::ship);
        String rule = " 137 0 0 0 1 0 0 0 1";
        String due = new Files().add(160).four(-FAR).add(146).four(-FAR).text() + rule + " "
                + new Files().add(160).four(2 * FAR).add(146).four(2 * FAR).text() + rule + " "
                + new Files().add(160).four(-2 * FAR).add(146).four(-2 * FAR).text() + rule;
        Expect.same("as four bytes", due, () -> Files.marksOf(x));
    }

    private static void ruleAddsNothing() {
        DviBytes x = new DviBytes();
        x.rule(FAR, FAR, FAR, FAR);
        x.rule(FAR, FAR, FAR, FAR);
        x.rule(FAR, FAR, FAR, FAR);
        Expect.same("rules at the edge", 1, x::ship);
        Expect.same("without moves", 10 + 3 * 9 + 48 + 15, x::size);
    }

    private static void arithmeticChangesNothing() {
        DviBytes x = new DviBytes();
        withWidth(x, 0);
        x.font(1, 1, 1, 1, 'b', 0, 1);
        x.put(0, 65, 0, 0);
        x.ship();
        int size = x.size();
        x.width(0, 65, MOST);
        x.put(1, 0, 4000, 5000);
        x.put(0, 65, 1, 0);
        Expect.arithmetic("h above an int", x::ship);
        Expect.same("nothing is written", size, x::size);
        Expect.same("the marks stay", 3, () -> x.put(0, 65, 0, 0));
        Expect.done("font 1 was not told", () -> x.font(1, 2, 2, 2, 'q', 0, 1));
        x.close();
        Expect.same("the end", new Files().add(248).four(15, 25400000, 473628672, 1000, 0, 0).add(0, 1, 0, 1)
                .font(0, 7, 8, 9, "", "a").add(249).text(), () -> Files.written(x, size, size + 29 + 18));
    }

    /*
     * More calls than an object is used for, here and in what follows: with 512 of them no file gets so long. What the
     * document says of 60000 bytes holds nevertheless.
     */
    private static void pages(DviBytes x, int comment, int many) {
        x.begin(0, comment);
        for (int i = 0; i < many; i++) {
            x.ship();
        }
    }

    private static void lengthOf60000() {
        DviBytes x = new DviBytes();
        pages(x, 33, 1248);
        Expect.same("48 bytes are left", 59952, x::size);
        Expect.same("60000 bytes", 1249, x::ship);
        Expect.same("60000 bytes, size", 60000, x::size);
        Expect.unsupported("one page more", x::ship);
        Expect.same("the file still closes", 60040, x::close);
        Expect.same("it is copied", 60040, x::copy);
        Expect.same("it is read", 0, x::read);
        Expect.same("its pages", 1249, () -> x.about(1));
        pages(x, 34, 1248);
        Expect.unsupported("60001 bytes", x::ship);
        Expect.same("nothing is written", 59953, x::size);
        Expect.same("a page that is not shipped is not counted", "4 224", () -> {
            x.close();
            return Files.written(x, 59953 + 27, 59953 + 29);
        });
        pages(x, 1, 1248);
        x.rule(0, 0, 1, 1);
        x.rule(0, 1, 1, 1);
        x.rule(200, 1, 1, 1);
        Expect.same("60000 bytes, with marks of 32", 1249, x::ship);
        Expect.same("60000 bytes, with marks, size", 60000, x::size);
        pages(x, 1, 1248);
        x.rule(0, 0, 1, 1);
        x.rule(0, 1, 1, 1);
        x.rule(40000, 1, 1, 1);
        Expect.unsupported("60001 bytes, with marks of 33", x::ship);
        Expect.same("nothing is written of the marks", 59920, x::size);
    }

    private static void nearlyFull(DviBytes x) {
        x.font(0, 7, 8, 9, 'a', 0, 1);
        x.font(1, 1, 1, 1, 'b', 0, 1);
        x.font(2, 2, 2, 2, 'c', 0, 1);
        x.put(2, 0, 0, 0);
        pages(x, 0, 0);
        x.put(1, 0, 10, 20);
        x.ship();
        for (int i = 0; i < 1247; i++) {
            x.ship();
        }
        x.put(1, 65, 3000, 4000);
        x.put(0, 65, 3000, 5000);
        x.put(2, 65, 3000, 6000);
    }

    private static void tooLongChangesNothing() {
        Twins.unsupported("too long", ShipTest::nearlyFull, DviBytes::ship);
        DviBytes x = new DviBytes();
        nearlyFull(x);
        Expect.unsupported("too long", x::ship);
        Expect.illegalState("a font told in the file stays told", () -> x.font(1, 1, 1, 1, 'q', 0, 1));
        Expect.done("one that was not stays so", () -> x.font(0, 1, 1, 1, 'q', 0, 1));
        Expect.done("so does another", () -> x.font(2, 1, 1, 1, 'q', 0, 1));
        Expect.same("the marks stay", 4, () -> x.rule(0, 0, 1, 1));
        x.close();
        x.copy();
        x.read();
        Expect.same("it is read without the page", "1 1248 1 1000 20 10 1", () -> x.about(0) + " " + x.about(1) + " "
                + x.about(2) + " " + x.about(3) + " " + x.about(4) + " " + x.about(5) + " " + x.about(6));
    }

    /** Fonts that a former file told are nothing to this one, when it gets too long either. */
    private static void tooLongAfterAnotherFile() {
        DviBytes x = new DviBytes();
        x.font(0, 7, 8, 9, 'a', 0, 1);
        x.font(1, 1, 1, 1, 'b', 0, 1);
        x.put(0, 0, 0, 0);
        x.put(1, 0, 0, 0);
        x.ship();
        x.begin(0, 0);
        x.put(1, 0, 0, 0);
        for (int i = 1; i <= 1249; i++) {
            x.ship();
        }
        x.put(1, 0, 0, 0);
        Expect.unsupported("too long", x::ship);
        Expect.illegalState("the font told in this file stays told", () -> x.font(1, 1, 1, 1, 'q', 0, 1));
        Expect.done("the one told in the former file does not", () -> x.font(0, 1, 1, 1, 'q', 0, 1));
    }

    private static void whichExceptionFirst() {
        Twins.illegalState("closed, and h passes", x -> {
            withWidth(x, MOST);
            x.put(0, 65, 1, 0);
            x.close();
        }, DviBytes::ship);
        Twins.arithmetic("h passes, and too long", x -> {
            nearlyFull(x);
            x.width(0, 65, MOST);
        }, DviBytes::ship);
        Twins.illegalState("closed, h passes, and too long", x -> {
            nearlyFull(x);
            x.width(0, 65, MOST);
            x.close();
        }, DviBytes::ship);
    }
}
