/** Promises 12 to 19: the input, and what is told of it when it is read. */
public final class ReadTest {
    public static void main(String[] args) {
        feed();
        feedToTheEnd();
        keep();
        copy();
        read();
        whatStays();
        about();
        characterMarks();
        ruleMarks();
        moves();
        pushAndPop();
        widths();
        pages();
        fonts();
        anywhereInAPage();
        manyMarks();
        roundTrip();
        Expect.end();
    }

    private static String marks(DviBytes x) {
        StringBuilder text = new StringBuilder();
        for (int i = 0; i < x.about(0); i++) {
            text.append(i > 0 ? " / " : "");
            for (int what = 0; what < 6; what++) {
                text.append(what > 0 ? " " : "").append(x.mark(i, what));
            }
        }
        return text.toString();
    }

    /** What is read of a page with font 1 at hand and these bytes. */
    private static String marksOf(int... bytes) {
        DviBytes x = Files.inPage().font(1).add(172).add(bytes).end().fed();
        int fault = x.read();
        return fault == 0 ? marks(x) : "fault " + fault;
    }

    private static void feed() {
        DviBytes x = new DviBytes();
        Expect.same("no bytes", false, () -> x.feed(1, 0));
        Expect.same("-1 bytes", false, () -> x.feed(1, -1));
        Expect.same("nine bytes", false, () -> x.feed(1, 9));
        Expect.same("nothing came", true, () -> x.keep(0) && !x.keep(1));
        byte[] file = Files.begun().last().veryLast(4).row();
        for (int n = 1; n <= 8; n++) {
            int bytes = n;
            x.keep(0);
            for (int i = 0; i < file.length; i += n) {
                long w = -1;
                int many = Math.min(n, file.length - i);
                for (int k = 0; k < many; k++) {
                    w = w << 8 | file[i + k] & 255;
                }
                long last = w;
                Expect.same("feed by " + bytes, true, () -> x.feed(last, many));
            }
            Expect.same("all came, by " + n, true, () -> x.keep(file.length) && !x.keep(file.length + 1));
            Expect.same("read, by " + n, 0, x::read);
        }
        x.feed(5, 1);
        Expect.same("behind the input", 200000 + file.length, x::read);
    }

    private static void feedToTheEnd() {
        DviBytes x = new DviBytes();
        for (int i = 0; i < 8749; i++) {
            x.feed(0, 8);
        }
        Expect.same("69999", true, () -> x.feed(0, 7));
        Expect.same("70001", false, () -> x.feed(0, 2));
        Expect.same("70000", true, () -> x.feed(0, 1));
        Expect.same("one more", false, () -> x.feed(0, 1));
        Expect.same("it has 70000", true, () -> x.keep(70000) && !x.keep(70001));
    }

    private static void keep() {
        DviBytes x = Files.begun().last().veryLast(4).fed();
        Expect.same("keep -1", false, () -> x.keep(-1));
        Expect.same("keep one too many", false, () -> x.keep(55));
        Expect.same("nothing changed", 0, x::read);
        Expect.same("keep all", true, () -> x.keep(54));
        Expect.same("still whole", 0, x::read);
        Expect.same("keep less", true, () -> x.keep(53));
        Expect.same("a byte is gone", 200053, x::read);
        Expect.same("it does not come back", false, () -> x.keep(54));
        Expect.same("keep none", true, () -> x.keep(0));
        Expect.same("none", 200000, x::read);
    }

    private static void copy() {
        DviBytes x = new DviBytes();
        x.feed(1, 8);
        Expect.same("nothing is written", 0, x::copy);
        Expect.same("nothing is there", false, () -> x.keep(1));
        x.ship();
        Expect.same("a page", 63, x::copy);
        Expect.same("no end", 200063, x::read);
        x.close();
        Expect.same("the copy stays as it was", 200063, x::read);
        Expect.same("closed", 104, x::copy);
        Expect.same("whole", 0, x::read);
        Expect.same("the file stays", 104, x::size);
        x.begin(0, 0);
        Expect.same("the input stays", 0, x::read);
        x.copy();
        Expect.same("empty again", 200000, x::read);
    }

    private static void read() {
        Expect.same("plain file", 0, () -> Files.begun().last().veryLast(4).fed().read());
        Expect.same("a comment", 0, () -> new Files().first(255).last().veryLast(4).fed().read());
        Expect.same("many 223", 0, () -> Files.begun().last().veryLast(100).fed().read());
        Expect.same("138 and fonts between", 0, () -> Files.begun().add(138, 138).font(1).add(138).page(0).add(140)
                .add(138).font(2).page(0).add(140, 138).last().add(138).font(2).font(1).add(138).font(2).veryLast(5)
                .fed().read());
        DviBytes x = Files.inPage().end().fed();
        Expect.same("read", 0, x::read);
        Expect.same("read again", 0, x::read);
        Expect.same("the input stays", true, () -> x.keep(60 + 1 + 29 + 10) && !x.keep(101));
    }

    private static void whatStays() {
        DviBytes x = Files.inPage().font(1).add(172, 65).end().fed();
        x.read();
        x.keep(0);
        x.feed(0, 8);
        x.copy();
        x.begin(0, 0);
        x.width(1, 65, 9);
        Expect.same("what was read stays", "1 0 1 65 0 0 0 97", () -> x.about(0) + " " + marks(x) + " " + x.told(0, 5));
        Expect.same("a fault", 200000, x::read);
        for (int i = 0; i <= 6; i++) {
            int what = i;
            Expect.same("nothing is read: about " + i, 0, () -> x.about(what));
        }
        Expect.outOfBounds("nothing is read: mark", () -> x.mark(0, 0));
        Expect.outOfBounds("nothing is read: page", () -> x.page(0, 0));
        Expect.outOfBounds("nothing is read: told", () -> x.told(0, 0));
    }

    private static void about() {
        DviBytes x = Files.begun().font(1).page(0).add(141, 141, 142, 142, 172, 1, 2).add(140)
                .page(0).add(141, 172, 1, 142, 140).last().veryLast(4).fed();
        Expect.same("read", 0, x::read);
        int[] due = {3, 2, 1, 1000, -11, 12, 2};
        for (int i = 0; i < due.length; i++) {
            int what = i;
            Expect.same("about " + i, due[i], () -> x.about(what));
        }
        Expect.outOfBounds("about -1", () -> x.about(-1));
        Expect.outOfBounds("about 7", () -> x.about(7));
    }

    private static void characterMarks() {
        Expect.same("0 and 127", "0 1 0 0 0 0 / 0 1 127 0 0 0", () -> marksOf(0, 127));
        Expect.same("set by numbers", "0 1 200 0 0 0 / 0 1 40000 0 0 0 / 0 1 16777215 0 0 0 / 0 1 -2 0 0 0",
                () -> marksOf(128, 200, 129, 156, 64, 130, 255, 255, 255, 131, 255, 255, 255, 254));
        Expect.same("put by numbers", "0 1 200 0 0 0 / 0 1 40000 0 0 0 / 0 1 16777215 0 0 0 / 0 1 -2 0 0 0",
                () -> marksOf(133, 200, 134, 156, 64, 135, 255, 255, 255, 136, 255, 255, 255, 254));
        DviBytes x = Files.inPage().font(1).add(172, 5).end().fed();
        x.read();
        Expect.outOfBounds("mark -1", () -> x.mark(-1, 0));
        Expect.outOfBounds("mark 1", () -> x.mark(1, 0));
        Expect.outOfBounds("what -1", () -> x.mark(0, -1));
        Expect.outOfBounds("what 6", () -> x.mark(0, 6));
        Expect.outOfBounds("far behind", () -> x.mark(Integer.MAX_VALUE, 0));
        Expect.outOfBounds("far before", () -> x.mark(Integer.MIN_VALUE, 0));
    }

    private static void ruleMarks() {
        Expect.same("set a rule", "0 -1 5 0 0 2 / 0 1 7 5 0 0", () -> marksOf(132, 0, 0, 0, 2, 0, 0, 0, 5, 7));
        Expect.same("put a rule", "0 -1 5 0 0 2 / 0 1 7 0 0 0", () -> marksOf(137, 0, 0, 0, 2, 0, 0, 0, 5, 7));
        Expect.same("height 0 is no mark, but moves", "0 1 7 5 0 0", () -> marksOf(132, 0, 0, 0, 0, 0, 0, 0, 5, 7));
        Expect.same("height -1 is no mark", "0 1 7 5 0 0", () -> marksOf(132, 255, 255, 255, 255, 0, 0, 0, 5, 7));
        Expect.same("width 0 is no mark", "0 1 7 0 0 0", () -> marksOf(132, 0, 0, 0, 1, 0, 0, 0, 0, 7));
        Expect.same("width -1 is no mark, but moves", "0 1 7 -1 0 0",
                () -> marksOf(132, 0, 0, 0, 1, 255, 255, 255, 255, 7));
        Expect.same("put, height 0", "0 1 7 0 0 0", () -> marksOf(137, 0, 0, 0, 0, 0, 0, 0, 5, 7));
        Expect.same("a rule needs no font", 0,
                () -> Files.inPage().add(137, 0, 0, 0, 1, 0, 0, 0, 1).end().fed().read());
    }

    private static void moves() {
        Expect.same("right", "0 1 9 255 0 0", () -> marksOf(144, 0, 255, 9));
        Expect.same("right back", "0 1 9 -1 0 0", () -> marksOf(143, 255, 9));
        Expect.same("right of three", "0 1 9 -8388608 0 0", () -> marksOf(145, 128, 0, 0, 9));
        Expect.same("right of four", "0 1 9 -2147483648 0 0", () -> marksOf(146, 128, 0, 0, 0, 9));
        Expect.same("down", "0 1 9 0 -1 0", () -> marksOf(157, 255, 9));
        Expect.same("down of two, three, four", "0 1 9 0 -2 0 / 0 1 9 0 65534 0 / 0 1 9 0 -2147418114 0",
                () -> marksOf(158, 255, 254, 9, 159, 1, 0, 0, 9, 160, 128, 0, 0, 0, 9));
        Expect.same("w", "0 1 9 -2 0 0 / 0 1 9 -4 0 0 / 0 1 9 -5 0 0 / 0 1 9 -8 0 0",
                () -> marksOf(148, 254, 9, 147, 9, 143, 255, 9, 150, 255, 255, 253, 9));
        Expect.same("x", "0 1 9 300 0 0 / 0 1 9 600 0 0 / 0 1 9 600 0 0", () -> marksOf(154, 1, 44, 9, 152, 9, 147, 9));
        Expect.same("y", "0 1 9 0 300 0 / 0 1 9 0 600 0 / 0 1 9 0 600 0", () -> marksOf(163, 1, 44, 9, 161, 9, 166, 9));
        Expect.same("z", "0 1 9 0 300 0 / 0 1 9 0 600 0 / 0 1 9 0 600 0", () -> marksOf(168, 1, 44, 9, 166, 9, 161, 9));
        Expect.same("all four, of four bytes", "0 1 9 3 7 0 / 0 1 9 6 14 0", () -> marksOf(151, 0, 0, 0, 1,
                156, 0, 0, 0, 2, 165, 0, 0, 0, 3, 170, 0, 0, 0, 4, 9, 147, 152, 161, 166, 9));
        Expect.same("all four, of one byte", "0 1 9 3 7 0 / 0 1 9 6 14 0",
                () -> marksOf(148, 1, 153, 2, 162, 3, 167, 4, 9, 147, 152, 161, 166, 9));
        Expect.same("all four, of three bytes", "0 1 9 3 7 0 / 0 1 9 6 14 0", () -> marksOf(150, 0, 0, 1,
                155, 0, 0, 2, 164, 0, 0, 3, 169, 0, 0, 4, 9, 147, 152, 161, 166, 9));
        Expect.same("nothing remembered", "0 1 9 0 0 0", () -> marksOf(147, 152, 161, 166, 9));
        Expect.same("a new page forgets", "0 1 9 5 6 0 / 1 1 9 0 0 0", () -> {
            DviBytes x = Files.inPage().font(1).add(172, 148, 5, 162, 6, 9, 140).page(3)
                    .add(172, 147, 161, 9).end().fed();
            return x.read() == 0 ? marks(x) : "fault";
        });
    }

    private static void pushAndPop() {
        Expect.same("push and pop", "0 1 9 3 7 0 / 0 1 9 33 77 0 / 0 1 9 3 7 0 / 0 1 9 6 14 0",
                () -> marksOf(148, 1, 153, 2, 162, 3, 167, 4, 9, 141, 148, 10, 153, 20, 162, 30, 167, 40, 9,
                        142, 9, 147, 152, 161, 166, 9));
        Expect.same("the font is not pushed", "0 2 9 0 0 0", () -> {
            DviBytes x = Files.inPage().font(1).font(2).add(172, 141, 173, 142, 9).end().fed();
            return x.read() == 0 ? marks(x) : "fault";
        });
        Expect.same("two deep", "0 1 9 3 0 0 / 0 1 9 1 0 0 / 0 1 9 0 0 0",
                () -> marksOf(141, 143, 1, 141, 143, 2, 9, 142, 9, 142, 9));
        DviBytes x = Files.inPage().times(100, 141, 143, 1).times(100, 142).font(1).add(172, 9).end().fed();
        Expect.same("a hundred deep", 0, x::read);
        Expect.same("the greatest depth", 100, () -> x.about(6));
        Expect.same("all came back", "0 1 9 0 0 0", () -> marks(x));
    }

    private static void widths() {
        DviBytes x = Files.inPage().font(1).font(255)
                .add(246).four(256, 7, 8, 9).add(0, 0).add(246).four(-1, 7, 8, 9).add(0, 0)
                .add(172, 65, 133, 65, 128, 65, 129, 1, 65, 131).four(-191).add(235, 255, 128, 255)
                .add(236, 1, 0, 65, 238).four(-1).add(65, 9).end().fed();
        x.width(1, 65, 10);
        x.width(255, 255, -1000);
        x.width(0, 65, 5);
        Expect.same("read", 0, x::read);
        Expect.same("widths", "0 1 65 0 0 0 / 0 1 65 10 0 0 / 0 1 65 10 0 0 / 0 1 321 20 0 0 / 0 1 -191 20 0 0"
                + " / 0 255 255 20 0 0 / 0 256 65 -980 0 0 / 0 -1 65 -980 0 0 / 0 -1 9 -980 0 0", () -> marks(x));
        DviBytes y = Files.inPage().font(1).add(172, 128, 65, 129, 0, 65, 130, 0, 0, 65, 131, 0, 0, 0, 65)
                .add(133, 65, 134, 0, 65, 135, 0, 0, 65, 136, 0, 0, 0, 65, 1).end().fed();
        y.width(1, 65, 10);
        y.read();
        Expect.same("set and put by numbers of all lengths", "0 10 20 30 40 40 40 40 40", () -> y.mark(0, 3) + " "
                + y.mark(1, 3) + " " + y.mark(2, 3) + " " + y.mark(3, 3) + " " + y.mark(4, 3) + " " + y.mark(5, 3)
                + " " + y.mark(6, 3) + " " + y.mark(7, 3) + " " + y.mark(8, 3));
        x.width(1, 65, 11);
        Expect.same("widths of the former read", 10, () -> x.mark(1, 3));
        x.read();
        Expect.same("widths of the new read", 11, () -> x.mark(1, 3));
    }

    private static void pages() {
        DviBytes x = Files.inPage().add(140).page(-5).add(140).page(Integer.MAX_VALUE - 9).end().fed();
        Expect.same("read", 0, x::read);
        Expect.same("pages", 3, () -> x.about(1));
        for (int i = 0; i < 10; i++) {
            int k = i;
            Expect.same("count " + i, k, () -> x.page(0, k));
            Expect.same("count " + i, k - 5, () -> x.page(1, k));
            Expect.same("count " + i, Integer.MAX_VALUE - 9 + k, () -> x.page(2, k));
        }
        Expect.outOfBounds("page -1", () -> x.page(-1, 0));
        Expect.outOfBounds("page 3", () -> x.page(3, 0));
        Expect.outOfBounds("count -1", () -> x.page(0, -1));
        Expect.outOfBounds("count 10", () -> x.page(0, 10));
        Expect.outOfBounds("page far behind", () -> x.page(Integer.MAX_VALUE, 9));
    }

    private static void fonts() {
        DviBytes x = Files.begun().font(9, -1, -2, -3, "x", "yz").font(9, -1, -2, -3, "xy", "z")
                .page(0).font(8, 1, 2, 3, "", "").add(140).font(9, -1, -2, -3, "", "xyz")
                .add(244, 1, 2).four(4, 5, 6).add(1, 1, 255, 0)
                .add(245, 255, 255, 255).four(4, 5, 6).add(0, 0)
                .add(246).four(-2, 4, 5, 6).add(0, 0)
                .last().font(8, 1, 2, 3, "", "").font(9, -1, -2, -3, "x", "yz").veryLast(4).fed();
        Expect.same("read", 0, x::read);
        Expect.same("fonts, each once", 5, () -> x.about(2));
        int[][] due = {{9, -1, -2, -3, 3, 'x', 'y', 'z', 0, 0}, {8, 1, 2, 3, 0, 0, 0}, {258, 4, 5, 6, 2, 255, 0, 0},
            {16777215, 4, 5, 6, 0, 0}, {-2, 4, 5, 6, 0, 0}};
        for (int i = 0; i < due.length; i++) {
            for (int j = 0; j < due[i].length; j++) {
                int k = i;
                int what = j;
                Expect.same("font " + i + ", " + j, due[i][j], () -> x.told(k, what));
            }
        }
        Expect.same("far behind the name", 0, () -> x.told(0, Integer.MAX_VALUE));
        Expect.outOfBounds("what -1", () -> x.told(0, -1));
        Expect.outOfBounds("what -2147483648", () -> x.told(0, Integer.MIN_VALUE));
        Expect.outOfBounds("font -1", () -> x.told(-1, 0));
        Expect.outOfBounds("font 5", () -> x.told(5, 0));
        Expect.outOfBounds("font far behind", () -> x.told(Integer.MAX_VALUE, 0));
        Files wide = Files.begun().add(243, 1).four(0, 0, 0).add(255, 255).times(509, 7).add(6);
        DviBytes y = wide.last().veryLast(4).fed();
        for (int i = 0; i < 300; i++) {
            Expect.same("a name of 510", 0, y::read);
        }
        Expect.same("its end", "510 7 6 0", () -> y.told(0, 4) + " " + y.told(0, 513) + " " + y.told(0, 514) + " "
                + y.told(0, 515));
    }

    private static void anywhereInAPage() {
        Expect.same("bytes of any kind", "0 1 9 0 0 0", () -> marksOf(138, 239, 0, 239, 2, 139, 255, 240, 0, 1, 247,
                241, 0, 0, 1, 140, 242, 0, 0, 0, 1, 249, 9));
        Expect.same("many of them", "0 1 9 0 0 0", () -> {
            DviBytes x = Files.inPage().font(1).add(172).add(239, 255).times(255, 9).add(240, 1, 0).times(256, 9)
                    .add(9).end().fed();
            return x.read() == 0 ? marks(x) : "fault";
        });
        String due = "0 1 9 0 0 0 / 0 64 9 0 0 0 / 0 64 9 0 0 0 / 0 1 9 0 0 0 / 0 64 9 0 0 0";
        Expect.same("fonts of all kinds", due, () -> {
            DviBytes x = Files.inPage().font(1).font(64).add(172, 9, 235, 64, 9, 236, 0, 64, 9, 237, 0, 0, 1, 9)
                    .add(238, 0, 0, 0, 64, 9).end().fed();
            return x.read() == 0 ? marks(x) : "fault";
        });
    }

    private static void manyMarks() {
        DviBytes x = Files.inPage().font(1).add(172).times(2000, 65).end().fed();
        x.width(1, 65, 3);
        Expect.same("2000 marks", 0, x::read);
        Expect.same("the last one", "0 1 65 5997 0 0", () -> x.mark(1999, 0) + " " + x.mark(1999, 1) + " "
                + x.mark(1999, 2) + " " + x.mark(1999, 3) + " " + x.mark(1999, 4) + " " + x.mark(1999, 5));
        Files f = Files.begun();
        for (int i = 0; i < 256; i++) {
            f.font(i);
        }
        for (int i = 0; i < 1300; i++) {
            f.page(i).add(140);
        }
        DviBytes y = f.last().veryLast(4).fed();
        Expect.same("256 fonts and 1300 pages", 0, y::read);
        Expect.same("the last ones", "1300 256 1308 255", () -> y.about(1) + " " + y.about(2) + " " + y.page(1299, 9)
                + " " + y.told(255, 0));
    }

    private static void roundTrip() {
        DviBytes x = new DviBytes();
        x.font(5, -1, 655360, 655361, 206988012899L, 0, 5);
        x.font(70, 9, 8, 7, 7523094288207667809L, 8101815670912281193L, 16);
        x.width(5, 65, 1000);
        x.width(70, 200, -30);
        x.count(3, -4);
        x.put(5, 65, 100, 200);
        x.put(70, 200, 1100, 200);
        x.rule(-7, 300, 50, 6);
        x.ship();
        x.put(70, 200, 3, 4);
        x.ship();
        x.close();
        Expect.same("copy", x.size(), x::copy);
        Expect.same("read", 0, x::read);
        Expect.same("marks", "0 5 65 100 200 0 / 0 70 200 1100 200 0 / 0 -1 50 -7 300 6 / 1 70 200 3 4 0",
                () -> marks(x));
        Expect.same("about", "4 2 2 1000 300 1100 1", () -> x.about(0) + " " + x.about(1) + " " + x.about(2) + " "
                + x.about(3) + " " + x.about(4) + " " + x.about(5) + " " + x.about(6));
        Expect.same("fonts", "5 -1 655360 655361 5 99 70 16 112", () -> x.told(0, 0) + " " + x.told(0, 1) + " "
                + x.told(0, 2) + " " + x.told(0, 3) + " " + x.told(0, 4) + " " + x.told(0, 5) + " " + x.told(1, 0)
                + " " + x.told(1, 4) + " " + x.told(1, 20));
        Expect.same("counts", "-4 -4 0", () -> x.page(0, 3) + " " + x.page(1, 3) + " " + x.page(1, 4));
    }
}
