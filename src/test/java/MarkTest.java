/** Promise 17: mark. */
public final class MarkTest {
    public static void main(String[] args) {
        parts();
        noSuchMarkOrPart();
        nothingRead();
        characters();
        fonts();
        rules();
        places();
        manyMarks();
        Expect.end();
    }

    /** What is read of a page with font 1 at hand and these bytes. */
    private static String marksOf(int... bytes) {
        DviBytes x = Files.inPage().font(1).add(172).add(bytes).end().fed();
        int fault = x.read();
        return fault == 0 ? Look.marks(x) : "fault " + fault;
    }

    private static void twoPages(DviBytes x) {
        Files.feed(x, Files.inPage().font(1).add(172, 143, 3, 157, 4, 5, 140).page(0).add(137).four(6, 7).end().row());
        x.read();
    }

    private static void parts() {
        DviBytes x = new DviBytes();
        twoPages(x);
        int[][] due = {{0, 1, 5, 3, 4, 0}, {1, -1, 7, 0, 0, 6}};
        for (int i = 0; i < 2; i++) {
            for (int what = 0; what < 6; what++) {
                int mark = i;
                int part = what;
                Expect.same("mark " + i + ", " + what, due[i][what], () -> x.mark(mark, part));
            }
        }
        Expect.same("NONE for a rule", DviBytes.NONE, () -> x.mark(1, 1));
    }

    private static void noSuchMarkOrPart() {
        for (int n : new int[] {-1, 2, 3, 2000, Integer.MIN_VALUE, Integer.MAX_VALUE}) {
            Twins.outOfBounds("mark " + n, MarkTest::twoPages, x -> x.mark(n, 0));
        }
        for (int n : new int[] {-1, 6, 7, Integer.MIN_VALUE, Integer.MAX_VALUE}) {
            Twins.outOfBounds("what " + n, MarkTest::twoPages, x -> x.mark(0, n));
            Twins.outOfBounds("what " + n + " of the last", MarkTest::twoPages, x -> x.mark(1, n));
        }
        Twins.outOfBounds("neither", MarkTest::twoPages, x -> x.mark(-1, 6));
    }

    private static void nothingRead() {
        DviBytes x = new DviBytes();
        Expect.outOfBounds("a new object", () -> x.mark(0, 0));
        twoPages(x);
        x.keep(90);
        x.read();
        Expect.outOfBounds("a fault", () -> x.mark(0, 0));
        Files.feed(x, Files.inPage().end().row());
        x.read();
        Expect.outOfBounds("a file without marks", () -> x.mark(0, 0));
    }

    private static void characters() {
        for (int c = 0; c < 128; c++) {
            int character = c;
            Expect.same("set " + c, "0 1 " + c + " 0 0 0", () -> marksOf(character));
        }
        int[] numbers = {0, 127, 128, 255, 256, 32768, 65535, 65536, 8388608, 16777215, 16777216, Integer.MAX_VALUE, -1,
            Integer.MIN_VALUE};
        for (int c : numbers) {
            for (int bytes = 1; bytes <= 4; bytes++) {
                if (bytes < 4 && c >>> (8 * bytes) != 0) {
                    continue;
                }
                int[] set = new int[bytes + 1];
                for (int i = 0; i < bytes; i++) {
                    set[bytes - i] = c >> (8 * i) & 255;
                }
                int[] put = set.clone();
                set[0] = 127 + bytes;
                put[0] = 132 + bytes;
                Expect.same("set " + c + " by " + bytes, "0 1 " + c + " 0 0 0", () -> marksOf(set));
                Expect.same("put " + c + " by " + bytes, "0 1 " + c + " 0 0 0", () -> marksOf(put));
            }
        }
    }

    private static void fonts() {
        for (int f = 0; f < 64; f++) {
            DviBytes x = Files.inPage().font(f).add(171 + f, 9).end().fed();
            x.read();
            Expect.same("font " + f, "0 " + f + " 9 0 0 0", () -> Look.marks(x));
        }
        int[] numbers = {0, 63, 64, 127, 128, 255, 256, 65535, 65536, 16777215, 16777216, Integer.MAX_VALUE, -1,
            Integer.MIN_VALUE};
        for (int f : numbers) {
            for (int bytes = 1; bytes <= 4; bytes++) {
                if (bytes < 4 && f >>> (8 * bytes) != 0) {
                    continue;
                }
                Files number = new Files();
                for (int i = bytes - 1; i >= 0; i--) {
                    number.add(f >> (8 * i));
                }
                Files file = Files.inPage().add(242 + bytes).bytes(number).four(1, 2, 3).add(0, 0);
                DviBytes x = file.add(234 + bytes).bytes(number).add(9).end().fed();
                Expect.same("read with font " + f + " by " + bytes, 0, x::read);
                Expect.same("font " + f + " by " + bytes, "0 " + f + " 9 0 0 0", () -> Look.marks(x));
            }
        }
    }

    private static int[] rule(int code, int height, int width) {
        byte[] row = new Files().add(code).four(height, width).add(7).row();
        int[] bytes = new int[row.length];
        for (int i = 0; i < row.length; i++) {
            bytes[i] = row[i] & 255;
        }
        return bytes;
    }

    /** A mark only if its height and its width are above 0; h grows as the width stands, if it is set. */
    private static void rules() {
        int[] sizes = {1, 2, 0, -1, Integer.MAX_VALUE, Integer.MIN_VALUE};
        for (int height : sizes) {
            for (int width : sizes) {
                String mark = height > 0 && width > 0 ? "0 -1 " + width + " 0 0 " + height + " / " : "";
                Expect.same("set a rule of " + height + ", " + width, mark + "0 1 7 " + width + " 0 0",
                        () -> marksOf(rule(132, height, width)));
                Expect.same("put a rule of " + height + ", " + width, mark + "0 1 7 0 0 0",
                        () -> marksOf(rule(137, height, width)));
            }
        }
        DviBytes x = Files.inPage().add(132).four(2, 3).add(137).four(4, 5).end().fed();
        x.read();
        Expect.same("a rule needs no font", "0 -1 3 0 0 2 / 0 -1 5 3 0 4", () -> Look.marks(x));
    }

    /** Where a mark is, is where it begins. */
    private static void places() {
        DviBytes x = Files.inPage().font(1).add(172, 146).four(Integer.MIN_VALUE).add(160).four(Integer.MAX_VALUE)
                .add(65, 133, 65, 66).end().fed();
        x.width(1, 65, 5);
        x.read();
        String edge = Integer.MIN_VALUE + " " + Integer.MAX_VALUE + " 0 / ";
        Expect.same("at the edges", "0 1 65 " + edge + "0 1 65 " + (Integer.MIN_VALUE + 5) + " " + Integer.MAX_VALUE
                + " 0 / 0 1 66 " + (Integer.MIN_VALUE + 5) + " " + Integer.MAX_VALUE + " 0", () -> Look.marks(x));
    }

    private static void manyMarks() {
        DviBytes x = Files.inPage().font(1).add(172).times(1500, 65).add(140).page(0).add(172).times(500, 66).end()
                .fed();
        x.width(1, 65, 3);
        x.width(1, 66, 4);
        Expect.same("2000 marks", 0, x::read);
        Expect.same("mark 0", "0 1 65 0 0 0", () -> Look.mark(x, 0));
        Expect.same("mark 1499", "0 1 65 4497 0 0", () -> Look.mark(x, 1499));
        Expect.same("mark 1500", "1 1 66 0 0 0", () -> Look.mark(x, 1500));
        Expect.same("mark 1999", "1 1 66 1996 0 0", () -> Look.mark(x, 1999));
        Expect.outOfBounds("mark 2000", () -> x.mark(2000, 0));
    }
}
