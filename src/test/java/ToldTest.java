/** Promise 19: told. */
public final class ToldTest {
    public static void main(String[] args) {
        eachOnce();
        noSuchFontOrPart();
        nothingRead();
        names();
        numbers();
        manyFonts();
        longNames();
        written();
        Expect.end();
    }

    private static void three(DviBytes x) {
        Files.feed(x, Files.begun().font(9, -1, -2, -3, "x", "yz").page(0).font(8, 1, 2, 3, "", "").add(140)
                .font(7, 4, 5, 6, "", "q").last().font(7, 4, 5, 6, "", "q").veryLast(4).row());
        x.read();
    }

    private static void eachOnce() {
        DviBytes x = Files.begun().font(9, -1, -2, -3, "x", "yz").font(9, -1, -2, -3, "xy", "z")
                .page(0).font(8, 1, 2, 3, "", "").add(140).font(9, -1, -2, -3, "", "xyz").font(7, 4, 5, 6, "", "q")
                .last().font(7, 4, 5, 6, "", "q").font(8, 1, 2, 3, "", "").font(9, -1, -2, -3, "x", "yz").veryLast(4)
                .fed();
        Expect.same("read", 0, x::read);
        Expect.same("fonts", 3, () -> x.about(2));
        Expect.same("the first one", "9 -1 -2 -3 3 120 121 122 0", () -> Look.font(x, 0));
        Expect.same("the second one", "8 1 2 3 0 0", () -> Look.font(x, 1));
        Expect.same("the last one", "7 4 5 6 1 113 0", () -> Look.font(x, 2));
    }

    private static void noSuchFontOrPart() {
        for (int n : new int[] {-1, 3, 4, 256, Integer.MIN_VALUE, Integer.MAX_VALUE}) {
            Twins.outOfBounds("font " + n, ToldTest::three, x -> x.told(n, 0));
            Twins.outOfBounds("the name of font " + n, ToldTest::three, x -> x.told(n, 5));
        }
        for (int n : new int[] {-1, -5, Integer.MIN_VALUE}) {
            Twins.outOfBounds("what " + n, ToldTest::three, x -> x.told(0, n));
            Twins.outOfBounds("what " + n + " of the last", ToldTest::three, x -> x.told(2, n));
        }
        Twins.outOfBounds("neither", ToldTest::three, x -> x.told(3, -1));
    }

    private static void nothingRead() {
        DviBytes x = new DviBytes();
        Expect.outOfBounds("a new object", () -> x.told(0, 0));
        x.font(1, 2, 3, 4, 'a', 0, 1);
        Expect.outOfBounds("what font() told is not read", () -> x.told(0, 0));
        three(x);
        x.keep(100);
        x.read();
        Expect.outOfBounds("a fault", () -> x.told(0, 0));
        Files.feed(x, Files.begun().last().veryLast(4).row());
        x.read();
        Expect.outOfBounds("a file without fonts", () -> x.told(0, 0));
    }

    /** 0 behind the name's end, however far; the next font's name is not behind it. */
    private static void names() {
        DviBytes x = new DviBytes();
        three(x);
        Expect.same("the name's end", "121 122 0 0", () -> x.told(0, 6) + " " + x.told(0, 7) + " " + x.told(0, 8) + " "
                + x.told(0, 9));
        Expect.same("an empty name", "0 0 0", () -> x.told(1, 4) + " " + x.told(1, 5) + " " + x.told(1, 6));
        for (int what : new int[] {20, 514, 515, 70000, 70005, Integer.MAX_VALUE - 1, Integer.MAX_VALUE}) {
            Expect.same("far behind the name: " + what, 0, () -> x.told(0, what));
            Expect.same("far behind the last name: " + what, 0, () -> x.told(2, what));
        }
        Files f = Files.begun().add(243, 1).four(0, 0, 0).add(2, 254);
        StringBuilder due = new StringBuilder("1 0 0 0 256");
        for (int b = 0; b < 256; b++) {
            f.add(b);
            due.append(' ').append(b);
        }
        DviBytes y = f.last().veryLast(4).fed();
        y.read();
        Expect.same("a name of all bytes", due + " 0", () -> Look.font(y, 0));
    }

    private static void numbers() {
        int[] edges = {0, 1, -1, 255, 256, 65536, Integer.MAX_VALUE, Integer.MIN_VALUE};
        for (int n : edges) {
            DviBytes x = Files.begun().font(1, n, 2, 3, "", "").font(2, 1, n, 3, "", "").font(3, 1, 2, n, "", "").last()
                    .veryLast(4).fed();
            x.read();
            Expect.same("check " + n, "1 " + n + " 2 3 0 0", () -> Look.font(x, 0));
            Expect.same("size " + n, "2 1 " + n + " 3 0 0", () -> Look.font(x, 1));
            Expect.same("design size " + n, "3 1 2 " + n + " 0 0", () -> Look.font(x, 2));
        }
        DviBytes x = Files.begun().add(243, 255).four(1, 2, 3).add(0, 0).add(244, 255, 254).four(1, 2, 3).add(0, 0)
                .add(245, 255, 255, 255).four(1, 2, 3).add(0, 0).add(246).four(-2, 1, 2, 3).add(0, 0)
                .add(246).four(255, 1, 2, 3).add(0, 0).last().veryLast(4).fed();
        Expect.same("read", 0, x::read);
        Expect.same("numbers of 1, 2, 3, 4 bytes; a number again is the same font", "4 255 65534 16777215 -2",
                () -> x.about(2) + " " + x.told(0, 0) + " " + x.told(1, 0) + " " + x.told(2, 0) + " " + x.told(3, 0));
    }

    private static void manyFonts() {
        Files f = Files.begun();
        for (int i = 0; i < 256; i++) {
            f.font(255 - i, i, 1000 + i, -i, "", "n" + i);
        }
        DviBytes x = f.last().veryLast(4).fed();
        Expect.same("256 fonts", 0, x::read);
        Expect.same("the first one", "255 0 1000 0 2 110 48 0", () -> Look.font(x, 0));
        Expect.same("the last one", "0 255 1255 -255 4 110 50 53 53 0", () -> Look.font(x, 255));
        Expect.outOfBounds("one more", () -> x.told(256, 0));
    }

    /** The longest names, in a file as long as can be, read again and again. */
    private static void longNames() {
        Files f = Files.begun();
        for (int i = 0; i < 132; i++) {
            f.add(243, i).four(i, 0, 0).add(255, 255).times(509, 7).add(i);
        }
        DviBytes x = f.last().veryLast(4).fed();
        for (int i = 0; i < 3; i++) {
            Expect.same("names of 510", 0, x::read);
            for (int k : new int[] {0, 1, 130, 131}) {
                Expect.same("font " + k, k + " 510 7 7 " + k + " 0", () -> x.told(k, 1) + " " + x.told(k, 4) + " "
                        + x.told(k, 5) + " " + x.told(k, 513) + " " + x.told(k, 514) + " " + x.told(k, 515));
            }
        }
    }

    private static void written() {
        DviBytes x = new DviBytes();
        x.font(5, -1, 655360, 655361, 206988012899L, 0, 5);
        x.font(70, 9, 8, 7, 0x6867666564636261L, 0x706f6e6d6c6b6a69L, 16);
        x.put(70, 0, 0, 0);
        x.put(5, 0, 0, 0);
        x.ship();
        x.close();
        x.copy();
        x.read();
        Expect.same("as font() told it", "70 9 8 7 16 97 98 99 100 101 102 103 104 105 106 107 108 109 110 111 112 0",
                () -> Look.font(x, 0));
        Expect.same("and the other", "5 -1 655360 655361 5 99 109 114 49 48 0", () -> Look.font(x, 1));
    }
}
