/** Promises 12, 13 and 14: feed, keep and copy. */
public final class InputTest {
    private static final int[] WRONG = {0, -1, 9, 16, -8, Integer.MIN_VALUE, Integer.MAX_VALUE};

    public static void main(String[] args) {
        feedByEach();
        feedWrongly();
        feedWhatIsHigher();
        feedToTheEnd();
        keepEach();
        keepWrongly();
        keepAndFeed();
        copyNothing();
        copyOpenAndClosed();
        copyInsteadOfWhatWasThere();
        copyStays();
        Expect.end();
    }

    private static byte[] file() {
        return Files.begun().font(1, 0x01020304, 0x7f80ff00, -2, "", "xyz").page(-77).add(172, 65, 140).last()
                .veryLast(4).row();
    }

    /** The same bytes by 1 .. 8 at once are read alike. */
    private static void feedByEach() {
        byte[] file = file();
        DviBytes whole = new DviBytes();
        Files.feed(whole, file);
        Expect.same("read", 0, whole::read);
        for (int n = 1; n <= 8; n++) {
            DviBytes x = new DviBytes();
            for (int i = 0; i < file.length; i += n) {
                int many = Math.min(n, file.length - i);
                long w = -1;
                for (int k = 0; k < many; k++) {
                    w = w << 8 | file[i + k] & 255;
                }
                long last = w;
                Expect.same("feed by " + n, true, () -> x.feed(last, many));
            }
            Expect.same("all came, by " + n, file.length, () -> Look.inputLength(x));
            Expect.same("read, by " + n, 0, x::read);
            Expect.same("what was read, by " + n, Look.reading(whole), () -> Look.reading(x));
        }
    }

    private static void feedWrongly() {
        for (int n : WRONG) {
            Twins.answersFalse(n + " bytes", x -> { }, x -> x.feed(-1, n));
            Twins.answersFalse(n + " bytes behind others", x -> Files.feed(x, file()), x -> x.feed(223, n));
        }
    }

    /** Bytes of w above the n lowest do not count; the highest of those comes first. */
    private static void feedWhatIsHigher() {
        DviBytes x = new DviBytes();
        byte[] row = Files.begun().row();
        Files.feed(x, java.util.Arrays.copyOf(row, 14));
        x.feed(0x1122334455667702L, 1);
        x.feed(0x11223344aabbL, 2);
        x.feed(0x1100000000000008L, 7);
        Expect.same("a comment of two, and 0", 200017, x::read);
        x.keep(17);
        x.feed(0x9900f8L, 1);
        Expect.same("248, and nothing behind it", 100017, x::read);
        x.keep(0);
        x.feed(0xf702018392c01c3bL, 8);
        x.feed(0x0000000003e800f8L, 8);
        Expect.same("247, no comment, and 248 with nothing behind it", 100015, x::read);
    }

    /* More calls than an object is used for: with 512 of them no input gets so long. */
    private static void feedToTheEnd() {
        for (int n = 1; n <= 8; n++) {
            int bytes = n;
            DviBytes x = new DviBytes();
            for (int i = 0; i < 8749; i++) {
                x.feed(0, 8);
            }
            Expect.same("69992 and 8 - " + n, true, () -> bytes == 8 || x.feed(0, 8 - bytes));
            for (int more = n + 1; more <= 8; more++) {
                int tooMany = more;
                Expect.same("70000 less " + n + " and " + more, false, () -> x.feed(0, tooMany));
            }
            Expect.same("nothing came", 70000 - n, () -> Look.inputLength(x));
            Expect.same("70000 less " + n + " and " + n, true, () -> x.feed(0, bytes));
            Expect.same("it has 70000", 70000, () -> Look.inputLength(x));
            Expect.same("70001", false, () -> x.feed(0, 1));
            Expect.same("70008", false, () -> x.feed(0, 8));
            Expect.same("keep 70001", false, () -> x.keep(70001));
            Expect.same("it has 70000 still", 70000, () -> Look.inputLength(x));
            x.keep(69999);
            Expect.same("room again", true, () -> x.feed(0, 1));
        }
        DviBytes x = new DviBytes();
        Files.feed(x, Files.inPage().times(69940, 138).row());
        Expect.same("70000 bytes, without an end", 270000, x::read);
        byte[] full = Files.inPage().times(70000 - 60 - 40, 138).end().row();
        Files.feed(x, full);
        Expect.same("a file of 70000", "70000 0", () -> Look.inputLength(x) + " " + x.read());
    }

    private static void keepEach() {
        byte[] file = file();
        for (int n = 0; n <= file.length; n++) {
            int bytes = n;
            DviBytes x = new DviBytes();
            Files.feed(x, file);
            Expect.same("keep " + n, true, () -> x.keep(bytes));
            Expect.same("it has " + n, bytes, () -> Look.inputLength(x));
            Expect.same("whole with all alone, " + n, bytes == file.length, () -> x.read() == 0);
            Expect.same("what is gone does not come back", bytes == file.length, () -> x.keep(file.length));
        }
    }

    private static void keepWrongly() {
        int length = file().length;
        for (int n : new int[] {-1, length + 1, 70000, 70001, Integer.MIN_VALUE, Integer.MAX_VALUE}) {
            Twins.answersFalse("keep " + n, x -> Files.feed(x, file()), x -> x.keep(n));
        }
        for (int n : new int[] {-1, 1, Integer.MIN_VALUE, Integer.MAX_VALUE}) {
            Twins.answersFalse("keep " + n + " of none", x -> { }, x -> x.keep(n));
        }
        DviBytes x = new DviBytes();
        Expect.same("keep none of none", true, () -> x.keep(0));
    }

    private static void keepAndFeed() {
        DviBytes x = Files.begun().last().veryLast(3).fed();
        x.feed(5, 1);
        Expect.same("another byte", 200053, x::read);
        x.keep(53);
        x.feed(223, 1);
        Expect.same("a right one in its place", 0, x::read);
        x.keep(0);
        x.feed(5, 1);
        Expect.same("from the start", 200000, x::read);
        Expect.same("one byte", 1, () -> Look.inputLength(x));
    }

    private static void copyNothing() {
        DviBytes x = new DviBytes();
        x.feed(1, 8);
        Expect.same("nothing is written", 0, x::copy);
        Expect.same("nothing is there", 0, () -> Look.inputLength(x));
        x.ship();
        x.begin(0, 9);
        x.feed(1, 8);
        Expect.same("nothing is written since begin()", 0, x::copy);
        Expect.same("nothing is there again", 0, () -> Look.inputLength(x));
    }

    private static void copyOpenAndClosed() {
        DviBytes x = new DviBytes();
        x.ship();
        Expect.same("a page", 63, x::copy);
        Expect.same("a page, in the input", 63, () -> Look.inputLength(x));
        Expect.same("no end", 200063, x::read);
        x.close();
        Expect.same("closed", 104, x::copy);
        Expect.same("whole", 0, x::read);
        Expect.same("copied twice", 104, x::copy);
        Expect.same("not behind the former", 104, () -> Look.inputLength(x));
    }

    private static void copyInsteadOfWhatWasThere() {
        DviBytes x = new DviBytes();
        x.close();
        Files.feed(x, Files.inPage().times(200, 138).row());
        Expect.same("a shorter one", 56, x::copy);
        Expect.same("a shorter one, in the input", 56, () -> Look.inputLength(x));
        Expect.same("a shorter one, read", 0, x::read);
        x.feed(223, 1);
        Expect.same("a byte behind it", "57 0", () -> Look.inputLength(x) + " " + x.read());
        x.feed(224, 1);
        Expect.same("a wrong byte behind it", 200057, x::read);
        Expect.same("what is written has it not", 56, x::size);
        x.copy();
        Expect.same("copied again", 0, x::read);
    }

    private static void copyStays() {
        DviBytes x = new DviBytes();
        x.ship();
        x.close();
        x.copy();
        x.read();
        String reading = Look.reading(x);
        String written = Files.text(Files.written(x));
        x.begin(3, 4);
        x.ship();
        Expect.same("the input stays when a new file begins", 104, () -> Look.inputLength(x));
        Expect.same("and is read as before", 0, x::read);
        Expect.same("and tells as before", reading, () -> Look.reading(x));
        DviBytes y = new DviBytes();
        y.ship();
        y.close();
        y.copy();
        y.keep(20);
        y.feed(-1, 8);
        Expect.same("what is written stays when the input changes", written, () -> Files.text(Files.written(y)));
        Files.feed(y, Files.inPage().end().row());
        y.read();
        y.copy();
        Expect.same("what was read stays when the input changes", 1, () -> y.about(1));
    }
}
