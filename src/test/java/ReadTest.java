/** Promise 15: read, of files that have no fault. */
public final class ReadTest {
    public static void main(String[] args) {
        leastFiles();
        between();
        comments();
        fillers();
        inputStays();
        formerReadingGoes();
        moves();
        numbersOfMoves();
        rememberedMoves();
        pushAndPop();
        newPages();
        widths();
        bytesOfAnyKind();
        fontsAnywhere();
        farthestPlaces();
        roundTrip();
        Expect.end();
    }

    private static String read(Files f) {
        DviBytes x = f.fed();
        int fault = x.read();
        return fault == 0 ? Look.marks(x) : "fault " + fault;
    }

    /** What is read of a page with font 1 at hand and these bytes. */
    private static String marksOf(int... bytes) {
        return read(Files.inPage().font(1).add(172).add(bytes).end());
    }

    /** Where character 9 stands behind these bytes: h and v. */
    private static String placeBehind(int... bytes) {
        DviBytes x = Files.inPage().font(1).add(172).add(bytes).add(9).end().fed();
        int fault = x.read();
        int last = x.about(0) - 1;
        return fault == 0 ? x.mark(last, 3) + " " + x.mark(last, 4) : "fault " + fault;
    }

    private static void fine(String what, Files f) {
        Expect.same(what, 0, () -> f.fed().read());
    }

    private static void leastFiles() {
        fine("without pages", Files.begun().last().veryLast(4));
        fine("with an empty page", Files.inPage().end());
        fine("with two", Files.inPage().add(140).page(0).end());
    }

    private static void between() {
        fine("138 before the pages", Files.begun().times(50, 138).page(0).end());
        fine("138 behind the pages", Files.inPage().add(140).times(50, 138).last().veryLast(4));
        fine("138 between pages", Files.inPage().add(140).times(50, 138).page(0).end());
        fine("138 behind 248", Files.begun().last().times(50, 138).veryLast(4));
        fine("138 in a page", Files.inPage().times(50, 138).end());
        fine("fonts everywhere", Files.begun().add(138, 138).font(1).add(138).page(0).font(3).add(140)
                .add(138).font(2).page(0).add(140, 138).last().add(138).font(2).font(1).add(138).font(2).veryLast(5));
    }

    private static void comments() {
        for (int n : new int[] {0, 1, 127, 128, 254, 255}) {
            fine("a comment of " + n, new Files().first(n).last().veryLast(4));
            fine("a comment of " + n + " and a page", new Files().first(n).page(0).end());
        }
    }

    private static void fillers() {
        for (int n = 4; n <= 20; n++) {
            fine(n + " bytes 223", Files.begun().last().veryLast(n));
        }
        fine("a thousand bytes 223", Files.begun().last().veryLast(1000));
    }

    private static void inputStays() {
        DviBytes x = Files.inPage().font(1).add(172, 65).end().fed();
        int length = Look.inputLength(x);
        Expect.same("read", 0, x::read);
        String reading = Look.reading(x);
        Expect.same("the input stays", length, () -> Look.inputLength(x));
        Expect.same("read again", 0, x::read);
        Expect.same("it tells the same", reading, () -> Look.reading(x));
        x.keep(70);
        Expect.same("a fault", 100060, x::read);
        Expect.same("the input stays with a fault", 70, () -> Look.inputLength(x));
        Expect.same("the same fault again", 100060, x::read);
    }

    private static void formerReadingGoes() {
        Files first = Files.begun().font(1).font(2).page(7).add(172, 65, 66, 141, 141, 142, 142, 140).page(8).end();
        Files second = Files.begun().font(3, 1, 2, 3, "", "z").page(9).add(174, 67, 140).last().veryLast(4);
        DviBytes x = first.fed();
        x.read();
        Files.feed(x, second.row());
        DviBytes y = second.fed();
        y.read();
        Expect.same("a new reading", 0, x::read);
        Expect.same("nothing of the former is left", Look.reading(y), () -> Look.reading(x));
        Files.feed(x, first.row());
        x.read();
        x.feed(0, 1);
        Expect.same("a fault behind it all", 200000 + first.length(), x::read);
        Expect.same("with a fault nothing is read", Look.reading(new DviBytes()), () -> Look.reading(x));
        x.keep(first.length());
        Expect.same("mended", 0, x::read);
        Expect.same("read again", 2, () -> x.about(0));
    }

    private static void moves() {
        Expect.same("right", "255 0", () -> placeBehind(144, 0, 255));
        Expect.same("down", "0 255", () -> placeBehind(158, 0, 255));
        Expect.same("there and back", "0 0", () -> placeBehind(143, 5, 143, 251, 157, 5, 157, 251));
        Expect.same("right adds", "12 0", () -> placeBehind(143, 5, 143, 7));
        Expect.same("down adds", "0 12", () -> placeBehind(157, 5, 157, 7));
        Expect.same("nothing remembered", "0 0", () -> placeBehind(147, 152, 161, 166));
        Expect.same("a plain move is not remembered", "5 6", () -> placeBehind(143, 5, 147, 152, 157, 6, 161, 166));
    }

    /** The least and the greatest number of each length, of all six kinds of moves. */
    private static void numbersOfMoves() {
        int[] plain = {143, 148, 153, 157, 162, 167};
        for (int first : plain) {
            for (int bytes = 1; bytes <= 4; bytes++) {
                int[] most = new int[bytes + 1];
                int[] least = new int[bytes + 1];
                int[] less = new int[bytes + 1];
                java.util.Arrays.fill(most, 255);
                java.util.Arrays.fill(less, 255);
                most[0] = first + bytes - 1;
                least[0] = most[0];
                less[0] = most[0];
                most[1] = 127;
                least[1] = 128;
                int power = 31 - 8 * (4 - bytes);
                int greatest = (int) ((1L << power) - 1);
                String code = "command " + most[0];
                Expect.same(code + ", the greatest", first < 157 ? greatest + " 0" : "0 " + greatest,
                        () -> placeBehind(most));
                int smallest = -greatest - 1;
                Expect.same(code + ", the least", first < 157 ? smallest + " 0" : "0 " + smallest,
                        () -> placeBehind(least));
                Expect.same(code + ", -1", first < 157 ? "-1 0" : "0 -1", () -> placeBehind(less));
            }
        }
    }

    private static void rememberedMoves() {
        int[] codes = {148, 153, 162, 167};
        int[] again = {147, 152, 161, 166};
        for (int i = 0; i < 4; i++) {
            int way = i;
            for (int bytes = 1; bytes <= 4; bytes++) {
                int[] row = new int[bytes + 3];
                row[0] = codes[i] + bytes - 1;
                row[bytes] = 5;
                row[bytes + 1] = again[i];
                row[bytes + 2] = again[i];
                Expect.same("command " + row[0] + ", and twice again", way < 2 ? "15 0" : "0 15",
                        () -> placeBehind(row));
            }
            for (int other = 0; other < 4; other++) {
                int another = again[other];
                Expect.same("command " + codes[i] + ", then " + another, other == i ? way < 2 ? "10 0" : "0 10"
                        : way < 2 ? "5 0" : "0 5", () -> placeBehind(codes[way], 5, another));
            }
            Expect.same("another number of " + codes[i], way < 2 ? "19 0" : "0 19",
                    () -> placeBehind(codes[way], 5, codes[way], 7, again[way]));
        }
        Expect.same("all four", "6 14", () -> placeBehind(148, 1, 153, 2, 162, 3, 167, 4, 147, 152, 161, 166));
    }

    private static void pushAndPop() {
        Expect.same("push and pop", "0 1 9 3 7 0 / 0 1 9 33 77 0 / 0 1 9 3 7 0 / 0 1 9 6 14 0",
                () -> marksOf(148, 1, 153, 2, 162, 3, 167, 4, 9, 141, 148, 10, 153, 20, 162, 30, 167, 40, 9,
                        142, 9, 147, 152, 161, 166, 9));
        for (int code : new int[] {147, 152}) {
            Expect.same("push keeps what " + code + " moves by", "10 0",
                    () -> placeBehind(code + 1, 5, 141, code + 1, 9, 142, code));
        }
        for (int code : new int[] {161, 166}) {
            Expect.same("push keeps what " + code + " moves by", "0 10",
                    () -> placeBehind(code + 1, 5, 141, code + 1, 9, 142, code));
        }
        Expect.same("a push alone changes nothing", "5 6", () -> placeBehind(143, 5, 157, 6, 141, 142));
        Expect.same("the font is not pushed", "0 2 9 0 0 0",
                () -> read(Files.inPage().font(1).font(2).add(172, 141, 173, 142, 9).end()));
        Expect.same("a font that is taken behind push stays", "0 1 9 0 0 0",
                () -> read(Files.inPage().font(1).add(141, 172, 142, 9).end()));
        Expect.same("the latest comes back first", "0 1 9 3 0 0 / 0 1 9 1 0 0 / 0 1 9 0 0 0",
                () -> marksOf(141, 143, 1, 141, 143, 2, 9, 142, 9, 142, 9));
        Expect.same("a width is taken back", "0 1 65 0 0 0 / 0 1 66 0 0 0", () -> {
            DviBytes x = Files.inPage().font(1).add(172, 141, 65, 142, 66).end().fed();
            x.width(1, 65, 40);
            return x.read() == 0 ? Look.marks(x) : "fault";
        });
        DviBytes x = Files.inPage().font(1).add(172).times(100, 141, 143, 1).times(100, 9, 142).add(9).end().fed();
        Expect.same("a hundred deep", 0, x::read);
        for (int i = 0; i <= 100; i++) {
            int mark = i;
            Expect.same("h behind " + i + " pops", 100 - i, () -> x.mark(mark, 3));
        }
    }

    private static void newPages() {
        Expect.same("h, v, w, x, y and z are 0 again", "0 1 9 12 14 0 / 1 1 9 0 0 0",
                () -> read(Files.inPage().font(1).add(172, 148, 5, 153, 7, 162, 6, 167, 8, 9, 140).page(3)
                        .add(172, 147, 152, 161, 166, 9).end()));
        Expect.same("a font told on a former page", "1 1 9 0 0 0",
                () -> read(Files.inPage().font(1).add(140).page(0).add(172, 9).end()));
    }

    private static void widths() {
        DviBytes x = Files.inPage().font(1).add(172, 65, 128, 65, 129, 0, 65, 130, 0, 0, 65, 131, 0, 0, 0, 65)
                .add(133, 65, 134, 0, 65, 135, 0, 0, 65, 136, 0, 0, 0, 65, 1).end().fed();
        x.width(1, 65, 10);
        x.read();
        int[] due = {0, 10, 20, 30, 40, 50, 50, 50, 50, 50};
        for (int i = 0; i < due.length; i++) {
            int mark = i;
            Expect.same("h of mark " + i + ": to set adds, to put does not", due[i], () -> x.mark(mark, 3));
        }
        x.width(1, 65, -10);
        x.read();
        Expect.same("a width below 0", -50, () -> x.mark(9, 3));
    }

    private static void bytesOfAnyKind() {
        for (int code = 239; code <= 242; code++) {
            for (int n : new int[] {0, 1, 255, 256, 300}) {
                int bytes = code - 238;
                if (bytes == 1 && n > 255) {
                    continue;
                }
                Files f = Files.inPage().font(1).add(172, code);
                for (int i = bytes - 1; i >= 0; i--) {
                    f.add(n >> (8 * i));
                }
                for (int i = 0; i < n; i++) {
                    f.add(140 + i);
                }
                Expect.same("command " + code + " with " + n, "0 1 9 0 0 0", () -> read(f.add(9).end()));
            }
        }
        Files most = Files.inPage().font(1).add(172, 240, 255, 255).times(65535, 140).add(9).end();
        Expect.same("65535 bytes", "0 1 9 0 0 0", () -> read(most));
        Files more = Files.inPage().font(1).add(172, 241, 1, 0, 0).times(65536, 140).add(9).end();
        Expect.same("65536 bytes", "0 1 9 0 0 0", () -> read(more));
    }

    private static void fontsAnywhere() {
        String due = "0 1 9 0 0 0 / 0 64 9 0 0 0 / 0 64 9 0 0 0 / 0 1 9 0 0 0 / 0 64 9 0 0 0";
        Expect.same("fonts of all kinds", due, () -> read(Files.inPage().font(1).font(64)
                .add(172, 9, 235, 64, 9, 236, 0, 64, 9, 237, 0, 0, 1, 9, 238, 0, 0, 0, 64, 9).end()));
        Expect.same("to tell a font is not to take it", "0 1 9 0 0 0",
                () -> read(Files.inPage().font(1).add(172).font(2).add(9).end()));
        Expect.same("told between pages", "0 1 9 0 0 0 / 1 2 9 0 0 0",
                () -> read(Files.begun().font(1).page(0).add(172, 9, 140).font(2).page(0).add(173, 9).end()));
    }

    private static void farthestPlaces() {
        int most = Integer.MAX_VALUE;
        int least = Integer.MIN_VALUE;
        Expect.same("to the greatest h and v", "0 1 9 " + most + " " + most + " 0", () -> read(Files.inPage().font(1)
                .add(172, 146).four(most - 1).add(143, 1, 160).four(most - 1).add(157, 1, 9).end()));
        Expect.same("to the least h and v", "0 1 9 " + least + " " + least + " 0", () -> read(Files.inPage().font(1)
                .add(172, 146).four(least + 1).add(143, 255, 160).four(least + 1).add(157, 255, 9).end()));
        Expect.same("from the greatest to the least but one", "0 1 9 0 0 0", () -> read(Files.inPage().font(1)
                .add(172, 146).four(most).add(146).four(-most).add(160).four(most).add(160).four(-most).add(9).end()));
    }

    private static void roundTrip() {
        DviBytes x = new DviBytes();
        x.font(5, -1, 655360, 655361, 206988012899L, 0, 5);
        x.font(70, 9, 8, 7, 7523094288207667809L, 8101815670912281193L, 16);
        x.width(5, 65, 1000);
        x.width(70, 200, -30);
        x.count(3, -4);
        x.put(5, 65, 100, 200);
        x.put(70, 200, 1100, 200);
        x.rule(-7, 300, 50, 6);
        x.ship();
        x.put(70, 200, 3, 4);
        x.ship();
        x.close();
        Expect.same("copy", x.size(), x::copy);
        Expect.same("read", 0, x::read);
        Expect.same("marks", "0 5 65 100 200 0 / 0 70 200 1100 200 0 / 0 -1 50 -7 300 6 / 1 70 200 3 4 0",
                () -> Look.marks(x));
        Expect.same("about", "4 2 2 1000 300 1100 1", () -> x.about(0) + " " + x.about(1) + " " + x.about(2) + " "
                + x.about(3) + " " + x.about(4) + " " + x.about(5) + " " + x.about(6));
    }
}
