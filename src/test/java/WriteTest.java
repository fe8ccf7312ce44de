import java.util.Arrays;

/** Promises 1 to 11: what is told and put together, and the bytes that are written of it. */
public final class WriteTest {
    private static final int FAR = 1000000000;

    public static void main(String[] args) {
        newObject();
        font();
        fontInTheFile();
        width();
        count();
        begin();
        put();
        rule();
        emptyPage();
        characters();
        fontsOnPages();
        rules();
        moves();
        movesDown();
        lengthsOfNumbers();
        shipThrows();
        shipTooLong();
        close();
        closeSums();
        sizeAndOut();
        Expect.end();
    }

    private static DviBytes withFont(int f) {
        DviBytes x = new DviBytes();
        x.font(f, 7, 8, 9, 'a' | 'b' << 8, 0, 2);
        return x;
    }

    /** What is written of the marks of the first page: behind 139 and 141, before 142 and 140. */
    private static String marksOf(DviBytes x) {
        byte[] row = Files.written(x);
        return unsigned(Arrays.copyOfRange(row, 61, row.length - 2));
    }

    private static String unsigned(byte[] row) {
        StringBuilder text = new StringBuilder();
        for (byte b : row) {
            text.append(text.length() > 0 ? " " : "").append(b & 255);
        }
        return text.toString();
    }

    private static Object tell(DviBytes x, int f, long name, long more, int n) {
        x.font(f, 7, 8, 9, name, more, n);
        return "told";
    }

    private static Object tellWidth(DviBytes x, int f, int c, int w) {
        x.width(f, c, w);
        return "told";
    }

    private static Object tellCount(DviBytes x, int i, int v) {
        x.count(i, v);
        return "told";
    }

    private static Object start(DviBytes x, int c, int n) {
        x.begin(c, n);
        return "begun";
    }

    private static void newObject() {
        DviBytes x = new DviBytes();
        Expect.same("new: size", 0, x::size);
        Expect.outOfBounds("new: out", () -> x.out(0));
        Expect.same("new: copy", 0, x::copy);
        Expect.same("new: read", 200000, x::read);
        for (int i = 0; i <= 6; i++) {
            int what = i;
            Expect.same("new: about " + i, 0, () -> x.about(what));
        }
        Expect.outOfBounds("new: mark", () -> x.mark(0, 0));
        Expect.outOfBounds("new: page", () -> x.page(0, 0));
        Expect.outOfBounds("new: told", () -> x.told(0, 0));
        for (int f = 0; f < 256; f++) {
            int none = f;
            Expect.illegalArgument("new: no font " + f, () -> x.put(none, 0, 0, 0));
        }
        Expect.same("new: keep", false, () -> x.keep(1));
        Expect.same("new: ship", 1, x::ship);
        byte[] due = Files.begun().add(139).times(40, 0).four(-1).add(141, 142, 140).row();
        Expect.same("new: a page", unsigned(due), () -> unsigned(Files.written(x)));
    }

    private static void font() {
        DviBytes x = new DviBytes();
        Expect.illegalArgument("font -1", () -> tell(x, -1, 'a', 0, 1));
        Expect.illegalArgument("font 256", () -> tell(x, 256, 'a', 0, 1));
        Expect.illegalArgument("no name", () -> tell(x, 0, 'a', 0, 0));
        Expect.illegalArgument("a name of -1", () -> tell(x, 0, 'a', 0, -1));
        Expect.illegalArgument("a long name", () -> tell(x, 0, 0x6161616161616161L, 0x6161616161616161L, 17));
        Expect.illegalArgument("character 32", () -> tell(x, 0, 32, 0, 1));
        Expect.illegalArgument("character 127", () -> tell(x, 0, 127, 0, 1));
        Expect.illegalArgument("character 255", () -> tell(x, 0, 255, 0, 1));
        Expect.illegalArgument("second character", () -> tell(x, 0, 'a', 0, 2));
        Expect.illegalArgument("ninth character", () -> tell(x, 0, 0x6161616161616161L, 0x6100, 9));
        Expect.illegalArgument("still no font", () -> x.put(0, 1, 0, 0));
        Expect.same("33", "told", () -> tell(x, 0, 33, 0, 1));
        Expect.same("126, and more that does not count", "told", () -> tell(x, 255, -130, -1, 1));
        Expect.same("16 characters", "told", () -> tell(x, 1, 0x7e21686766656463L, 0x706f6e6d6c6b6a69L, 16));
        Expect.illegalArgument("told wrongly, the font stays", () -> tell(x, 1, 0, 0, 1));
        x.put(1, 0, 0, 0);
        x.ship();
        Expect.same("a name of 16", "243 1 0 0 0 7 0 0 0 8 0 0 0 9 0 16 99 100 101 102 103 104 33 126"
                + " 105 106 107 108 109 110 111 112 172 0", () -> marksOf(x));
    }

    private static void fontInTheFile() {
        DviBytes x = withFont(3);
        x.font(3, -1, -2, -3, '!', 0, 1);
        x.put(3, 5, 0, 0);
        Expect.same("not told in the file yet", "told", () -> tell(x, 3, '~', 0, 1));
        x.ship();
        Expect.same("the latest telling is written", "243 3 0 0 0 7 0 0 0 8 0 0 0 9 0 1 126 174 5", () -> marksOf(x));
        Expect.illegalState("told in the file", () -> tell(x, 3, 'a', 0, 1));
        Expect.illegalArgument("a wrong name comes first", () -> tell(x, 3, 'a', 0, 0));
        Expect.same("another font", "told", () -> tell(x, 4, 'a', 0, 1));
        x.close();
        Expect.illegalState("told in the closed file", () -> tell(x, 3, 'a', 0, 1));
        x.begin(0, 0);
        Expect.same("a new file", "told", () -> tell(x, 3, 'z', 0, 1));
        x.put(3, 6, 0, 0);
        x.ship();
        Expect.same("told anew", "243 3 0 0 0 7 0 0 0 8 0 0 0 9 0 1 122 174 6", () -> marksOf(x));
    }

    private static void width() {
        DviBytes x = withFont(0);
        Expect.illegalArgument("width of font -1", () -> tellWidth(x, -1, 0, 1));
        Expect.illegalArgument("width of font 256", () -> tellWidth(x, 256, 0, 1));
        Expect.illegalArgument("width of character -1", () -> tellWidth(x, 0, -1, 1));
        Expect.illegalArgument("width of character 256", () -> tellWidth(x, 0, 256, 1));
        Expect.same("width of a font not told", "told", () -> tellWidth(x, 255, 255, 1));
        x.width(0, 255, 30);
        x.put(0, 255, 0, 0);
        x.put(0, 255, 50, 0);
        x.put(0, 254, 100, 0);
        x.put(0, 254, 101, 0);
        x.width(0, 255, 40);
        x.ship();
        Expect.same("the width at the ship counts", "243 0 0 0 0 7 0 0 0 8 0 0 0 9 0 2 97 98 171 128 255"
                + " 148 10 128 255 147 128 254 143 1 128 254", () -> marksOf(x));
        x.begin(0, 0);
        x.put(0, 255, 0, 0);
        x.put(0, 255, 39, 0);
        x.ship();
        Expect.same("widths outlive begin", "243 0 0 0 0 7 0 0 0 8 0 0 0 9 0 2 97 98 171 128 255 143 255 128 255",
                () -> marksOf(x));
    }

    private static void count() {
        DviBytes x = new DviBytes();
        Expect.illegalArgument("count -1", () -> tellCount(x, -1, 1));
        Expect.illegalArgument("count 10", () -> tellCount(x, 10, 1));
        for (int i = 0; i < 10; i++) {
            x.count(i, i - 5);
        }
        x.ship();
        x.begin(0, 0);
        x.count(9, Integer.MIN_VALUE);
        x.ship();
        byte[] due = Files.begun().add(139).four(-5, -4, -3, -2, -1, 0, 1, 2, 3, Integer.MIN_VALUE, -1)
                .add(141, 142, 140).row();
        Expect.same("counts outlive ship and begin", unsigned(due), () -> unsigned(Files.written(x)));
    }

    private static void begin() {
        DviBytes x = withFont(0);
        x.put(0, 0, 0, 0);
        Expect.illegalArgument("comment of -1", () -> start(x, 0, -1));
        Expect.illegalArgument("comment of 256", () -> start(x, 0, 256));
        Expect.illegalArgument("comment character -1", () -> start(x, -1, 0));
        Expect.illegalArgument("comment character 256", () -> start(x, 256, 0));
        Expect.same("a wrong begin leaves the marks", 2, () -> x.put(0, 0, 0, 0));
        Expect.same("begin", "begun", () -> start(x, 255, 255));
        Expect.same("nothing is written", 0, x::size);
        Expect.same("no marks", 1, () -> x.put(0, 0, 0, 0));
        x.ship();
        byte[] due = Files.begun().row();
        due[14] = (byte) 255;
        Expect.same("first", unsigned(due), () -> unsigned(Arrays.copyOf(Files.written(x), 15)));
        Expect.same("the comment's end", "255 139", () -> x.out(269) + " " + x.out(270));
        x.close();
        x.begin(7, 1);
        Expect.same("a new file: nothing is written", 0, x::size);
        Expect.same("a new file: pages", 1, x::ship);
        Expect.same("a new file: no former page", -1, () -> x.out(57) == 255 && x.out(60) == 255 ? -1 : 0);
        Expect.same("a new file: the fonts stay", 1, () -> x.put(0, 0, 0, 0));
    }

    private static void put() {
        DviBytes x = withFont(255);
        Expect.illegalArgument("font not told", () -> x.put(254, 0, 0, 0));
        Expect.illegalArgument("font -1", () -> x.put(-1, 0, 0, 0));
        Expect.illegalArgument("font 256", () -> x.put(256, 0, 0, 0));
        Expect.illegalArgument("character -1", () -> x.put(255, -1, 0, 0));
        Expect.illegalArgument("character 256", () -> x.put(255, 256, 0, 0));
        Expect.illegalArgument("x too great", () -> x.put(255, 0, FAR + 1, 0));
        Expect.illegalArgument("x too small", () -> x.put(255, 0, -FAR - 1, 0));
        Expect.illegalArgument("y too great", () -> x.put(255, 0, 0, FAR + 1));
        Expect.illegalArgument("y too small", () -> x.put(255, 0, 0, -FAR - 1));
        Expect.same("the edges", 1, () -> x.put(255, 255, FAR, -FAR));
        Expect.same("the other edges", 2, () -> x.put(255, 0, -FAR, FAR));
        for (int i = 3; i <= 500; i++) {
            int due = i;
            Expect.same("mark " + i, due, () -> due % 2 == 0 ? x.put(255, 0, 0, 0) : x.rule(0, 0, 1, 1));
        }
        Expect.unsupported("501 marks", () -> x.put(255, 0, 0, 0));
        Expect.unsupported("501 marks, a rule", () -> x.rule(0, 0, 1, 1));
        Expect.illegalArgument("a wrong font comes first", () -> x.put(254, 0, 0, 0));
        Expect.illegalArgument("a wrong rule comes first", () -> x.rule(0, 0, 0, 1));
        Expect.same("it still ships", 1, x::ship);
        x.copy();
        Expect.same("empty then", 1, () -> x.put(255, 0, 0, 0));
        x.close();
        Expect.same("marks come on it when the file is closed", 2, () -> x.put(255, 0, 0, 0));
    }

    private static void rule() {
        DviBytes x = new DviBytes();
        Expect.illegalArgument("x too great", () -> x.rule(FAR + 1, 0, 1, 1));
        Expect.illegalArgument("x too small", () -> x.rule(-FAR - 1, 0, 1, 1));
        Expect.illegalArgument("y too great", () -> x.rule(0, FAR + 1, 1, 1));
        Expect.illegalArgument("y too small", () -> x.rule(0, -FAR - 1, 1, 1));
        Expect.illegalArgument("width 0", () -> x.rule(0, 0, 0, 1));
        Expect.illegalArgument("width too great", () -> x.rule(0, 0, FAR + 1, 1));
        Expect.illegalArgument("height 0", () -> x.rule(0, 0, 1, 0));
        Expect.illegalArgument("height too great", () -> x.rule(0, 0, 1, FAR + 1));
        Expect.same("the edges", 1, () -> x.rule(FAR, -FAR, FAR, 1));
        Expect.same("the other edges", 2, () -> x.rule(-FAR, FAR, 1, FAR));
    }

    private static void emptyPage() {
        DviBytes x = new DviBytes();
        x.begin(99, 2);
        Expect.same("first page", 1, x::ship);
        x.count(0, 1);
        Expect.same("second page", 2, x::ship);
        byte[] due = new Files().first(2).add(139).times(40, 0).four(-1).add(141, 142, 140)
                .add(139).four(1).times(36, 0).four(17).add(141, 142, 140).row();
        Expect.same("two pages", unsigned(due), () -> unsigned(Files.written(x)));
    }

    private static void characters() {
        DviBytes x = withFont(64);
        x.font(63, 1, 2, 3, 'c', 0, 1);
        x.put(63, 0, 0, 0);
        x.put(63, 127, 0, 0);
        x.put(64, 128, 0, 0);
        x.put(64, 255, 0, 0);
        x.ship();
        Expect.same("fonts 63 and 64, characters to 255", "243 63 0 0 0 1 0 0 0 2 0 0 0 3 0 1 99 234 0 127"
                + " 243 64 0 0 0 7 0 0 0 8 0 0 0 9 0 2 97 98 235 64 128 128 128 255", () -> marksOf(x));
    }

    private static void fontsOnPages() {
        DviBytes x = withFont(1);
        x.font(2, 1, 2, 3, 'c', 0, 1);
        x.put(1, 10, 0, 0);
        x.put(2, 11, 0, 0);
        x.rule(0, 0, 1, 1);
        x.put(2, 12, 0, 0);
        x.put(1, 13, 0, 0);
        x.ship();
        Expect.same("a rule leaves the font", "243 1 0 0 0 7 0 0 0 8 0 0 0 9 0 2 97 98 172 10"
                + " 243 2 0 0 0 1 0 0 0 2 0 0 0 3 0 1 99 173 11 137 0 0 0 1 0 0 0 1 12 172 13", () -> marksOf(x));
        int size = x.size();
        x.put(1, 14, 0, 0);
        x.ship();
        byte[] all = Files.written(x);
        Expect.same("a new page has no font, but it is told", "141 172 14 142 140",
                () -> unsigned(Arrays.copyOfRange(all, size + 45, all.length)));
    }

    private static void rules() {
        DviBytes x = new DviBytes();
        x.rule(5, 6, 258, FAR);
        x.rule(5, 7, 1, 1);
        x.ship();
        Expect.same("height, then width; h stays", "157 6 143 5 137 59 154 202 0 0 0 1 2 157 1 137 0 0 0 1 0 0 0 1",
                () -> marksOf(x));
    }

    /** Rules at the sums of these moves right. */
    private static String right(int... moves) {
        DviBytes x = new DviBytes();
        int at = 0;
        for (int by : moves) {
            at += by;
            x.rule(at, 0, 1, 1);
        }
        x.ship();
        return marksOf(x).replace("137 0 0 0 1 0 0 0 1", "#");
    }

    private static void moves() {
        Expect.same("no move", "# #", () -> right(0, 0));
        Expect.same("once", "143 9 #", () -> right(9));
        Expect.same("twice", "148 9 # 147 #", () -> right(9, 9));
        Expect.same("not awaited behind its last", "148 9 # 147 # 148 8 # 147 #", () -> right(9, 9, 8, 8));
        Expect.same("w awaited", "148 9 # 153 8 # 152 # 147 #", () -> right(9, 8, 8, 9));
        Expect.same("what comes once is not remembered", "143 9 # 143 8 # 148 7 # 147 # 147 #",
                () -> right(9, 8, 7, 7, 7));
        Expect.same("both awaited, plainly", "148 9 # 153 8 # 143 7 # 147 # 152 # 143 7 #",
                () -> right(9, 8, 7, 9, 8, 7));
        Expect.same("w free again", "148 9 # 153 8 # 143 7 # 147 # 148 7 # 152 # 147 #",
                () -> right(9, 8, 7, 9, 7, 8, 7));
        Expect.same("x free again", "148 9 # 153 8 # 143 7 # 152 # 153 7 # 147 # 152 #",
                () -> right(9, 8, 7, 8, 7, 9, 7));
        Expect.same("w is kept though it is not awaited", "148 9 # 147 # 143 5 # 143 4 #", () -> right(9, 9, 5, 4));
        Expect.same("backwards", "148 255 # 147 # 143 1 #", () -> right(-1, -1, 1));
        Expect.same("no moves between", "148 9 # # 147 # #", () -> right(9, 0, 9, 0));
    }

    private static void movesDown() {
        DviBytes x = new DviBytes();
        int[] moves = {9, 8, 7, 9, 7, 8, 7, 0, -300};
        int at = 0;
        for (int by : moves) {
            at += by;
            x.rule(at, at, 1, 1);
        }
        x.ship();
        Expect.same("each way has its own two, down comes first", "162 9 148 9 # 167 8 153 8 # 157 7 143 7 #"
                + " 161 147 # 162 7 148 7 # 166 152 # 161 147 # # 158 254 212 144 254 212 #",
                () -> marksOf(x).replace("137 0 0 0 1 0 0 0 1", "#"));
    }

    private static void lengthsOfNumbers() {
        Expect.same("127", "143 127 #", () -> right(127));
        Expect.same("-128", "143 128 #", () -> right(-128));
        Expect.same("128", "144 0 128 #", () -> right(128));
        Expect.same("-129", "144 255 127 #", () -> right(-129));
        Expect.same("32767", "144 127 255 #", () -> right(32767));
        Expect.same("-32768", "144 128 0 #", () -> right(-32768));
        Expect.same("32768", "145 0 128 0 #", () -> right(32768));
        Expect.same("-32769", "145 255 127 255 #", () -> right(-32769));
        Expect.same("8388607", "145 127 255 255 #", () -> right(8388607));
        Expect.same("-8388608", "145 128 0 0 #", () -> right(-8388608));
        Expect.same("8388608", "146 0 128 0 0 #", () -> right(8388608));
        Expect.same("-8388609", "146 255 127 255 255 #", () -> right(-8388609));
        Expect.same("w of four bytes", "151 0 128 0 0 # 147 #", () -> right(8388608, 8388608));
        Expect.same("x of three bytes", "148 1 # 155 0 128 0 # 152 # 147 #", () -> right(1, 32768, 32768, 1));
    }

    private static void shipThrows() {
        DviBytes x = withFont(0);
        x.font(1, 1, 1, 1, 'b', 0, 1);
        x.put(0, 0, 0, 0);
        x.ship();
        int size = x.size();
        x.width(0, 1, Integer.MAX_VALUE);
        x.width(0, 2, Integer.MIN_VALUE);
        x.put(1, 0, 0, 5000);
        x.put(0, 1, 1, 0);
        Expect.arithmetic("h above an int", x::ship);
        Expect.same("nothing is written", size, x::size);
        Expect.same("the marks stay", 3, () -> x.put(0, 1, 0, 0));
        Expect.same("font 1 was not told", "told", () -> tell(x, 1, 'q', 0, 1));
        Expect.same("close, without the page", true, () -> x.close() > size);
        x.copy();
        x.read();
        Expect.same("the greatest v is not that of the page", 0, () -> x.about(4));
        Expect.illegalState("closed comes before h", x::ship);

        x.begin(0, 0);
        x.put(0, 2, -1, 0);
        Expect.arithmetic("h below an int", x::ship);
        x.begin(0, 0);
        x.put(0, 2, 0, 0);
        Expect.same("h of -2147483648", 1, x::ship);
        x.begin(0, 0);
        x.put(0, 1, 0, 0);
        Expect.same("h of 2147483647", 1, x::ship);
        x.put(0, 1, 0, 0);
        x.put(0, 0, 0, 0);
        Expect.same("a move by -2147483647", 2, x::ship);
        x.put(0, 1, 0, 0);
        x.put(0, 0, -1, 0);
        Expect.same("a move by -2147483648", 3, x::ship);
        x.put(0, 1, 0, 0);
        x.put(0, 0, -2, 0);
        Expect.arithmetic("a move by -2147483649", x::ship);
        x.begin(0, 0);
        x.put(0, 2, 0, 0);
        x.rule(-1, 0, 1, 1);
        Expect.same("a move by 2147483647", 1, x::ship);
        x.put(0, 2, 0, 0);
        x.rule(0, 0, 1, 1);
        Expect.arithmetic("a move by 2147483648, to a rule", x::ship);
        x.width(0, 2, 0);
        Expect.same("it ships with another width", 2, x::ship);
    }

    /* More calls than an object is used for: the limits of bytes can't be met otherwise. */
    private static void shipTooLong() {
        DviBytes x = withFont(0);
        x.font(1, 1, 1, 1, 'b', 0, 1);
        x.begin(0, 1);
        for (int i = 1; i <= 1249; i++) {
            int due = i;
            Expect.same("page " + i, due, x::ship);
        }
        Expect.same("room for 32 bytes more", 16 + 1249 * 48, x::size);
        x.put(1, 1, 0, 0);
        Expect.unsupported("more than 60000", x::ship);
        Expect.same("nothing is written", 59968, x::size);
        Expect.same("font 1 was not told", "told", () -> tell(x, 1, 'q', 0, 1));
        Expect.same("the mark stays", 2, () -> x.put(0, 1, 5, 0));
        x.width(0, 1, Integer.MAX_VALUE);
        Expect.arithmetic("h comes before the length", x::ship);
        x.close();
        Expect.same("closed, it divides by four", 0, () -> x.size() % 4);
        Expect.same("copied", 60008, x::copy);
        Expect.same("read", 0, x::read);
        Expect.same("pages", 1249, () -> x.about(1));
        Expect.same("fonts", 0, () -> x.about(2));
        x.begin(0, 33);
        for (int i = 1; i <= 1248; i++) {
            x.ship();
        }
        Expect.same("size", 48 + 1248 * 48, x::size);
        Expect.same("60000 bytes", 1249, () -> x.size() == 59952 ? x.ship() : -1);
        Expect.same("60000 bytes, size", 60000, x::size);
        Expect.unsupported("one page more", x::ship);
        Expect.same("the file still closes", 60040, x::close);
        x.begin(0, 34);
        for (int i = 1; i <= 1248; i++) {
            x.ship();
        }
        Expect.unsupported("60001 bytes", x::ship);
        shipTooLongAfterAnotherFile();
    }

    private static void shipTooLongAfterAnotherFile() {
        DviBytes x = withFont(0);
        x.font(1, 1, 1, 1, 'b', 0, 1);
        x.put(0, 0, 0, 0);
        x.put(1, 0, 0, 0);
        x.ship();
        x.begin(0, 0);
        x.put(1, 0, 0, 0);
        x.ship();
        for (int i = 2; i <= 1249; i++) {
            x.ship();
        }
        x.put(1, 0, 0, 0);
        Expect.unsupported("too long", x::ship);
        Expect.illegalState("the font told in this file stays told", () -> tell(x, 1, 'q', 0, 1));
        Expect.same("the one told in the former file does not", "told", () -> tell(x, 0, 'q', 0, 1));
    }

    private static void close() {
        DviBytes x = new DviBytes();
        Expect.same("no pages", 56, x::close);
        byte[] due = Files.begun().add(248).four(-1, Files.NUMERATOR, Files.DENOMINATOR, 1000, 0, 0, 0)
                .add(249).four(15).add(2).times(6, 223).row();
        Expect.same("a file without pages", unsigned(due), () -> unsigned(Files.written(x)));
        Expect.illegalState("closed", x::close);
        Expect.illegalState("ship into a closed file", x::ship);
        Expect.same("nothing changed", unsigned(due), () -> unsigned(Files.written(x)));
        for (int n = 0; n < 8; n++) {
            int comment = n;
            x.begin(0, n);
            int least = 15 + n + 29 + 6 + 4;
            Expect.same("a comment of " + n, (least + 3) / 4 * 4, x::close);
            Expect.same("size with a comment of " + n, (least + 3) / 4 * 4, x::size);
            Expect.same("249 with a comment of " + n, "249 2 223 223", () -> x.out(44 + comment) + " "
                    + x.out(49 + comment) + " " + x.out(50 + comment) + " " + x.out(x.size() - 1));
        }
        DviBytes y = withFont(0);
        y.put(0, 0, 0, 0);
        y.close();
        Expect.same("marks of a page that is not written stay", 2, () -> y.put(0, 0, 0, 0));
        y.begin(0, 0);
        Expect.same("until a new file begins", 1, () -> y.put(0, 0, 0, 0));
    }

    private static void closeSums() {
        DviBytes x = withFont(200);
        x.font(1, 1, 2, 3, 'c', 0, 1);
        x.font(2, 1, 2, 3, 'd', 0, 1);
        x.width(1, 0, 70);
        x.width(1, 1, -70);
        x.put(200, 0, 10, -5);
        x.put(1, 0, 10, -6);
        x.put(1, 1, 100, -7);
        x.rule(60, -8, 1000, 1000);
        x.ship();
        x.rule(0, 3, 1, 1);
        x.ship();
        int second = x.size() - 48 - 9 - 2;
        int end = x.size();
        x.close();
        byte[] due = new Files().add(248).four(second, Files.NUMERATOR, Files.DENOMINATOR, 1000, 3, 80).add(0, 1, 0, 2)
                .font(1, 1, 2, 3, "", "c").font(200).add(249).four(end).add(2, 223, 223, 223, 223).row();
        Expect.same("the end", unsigned(due),
                () -> unsigned(Arrays.copyOfRange(Files.written(x), end, end + due.length)));
        x.begin(0, 0);
        x.put(1, 1, 0, -1);
        x.ship();
        x.close();
        x.copy();
        x.read();
        Expect.same("sums are 0 at least, and new in a new file", "0 0", () -> x.about(4) + " " + x.about(5));
    }

    private static void sizeAndOut() {
        DviBytes x = new DviBytes();
        x.ship();
        Expect.same("size", 63, x::size);
        Expect.same("the first byte", 247, () -> x.out(0));
        Expect.same("the last byte", 140, () -> x.out(62));
        Expect.outOfBounds("behind it", () -> x.out(63));
        Expect.outOfBounds("before it", () -> x.out(-1));
        Expect.outOfBounds("far behind it", () -> x.out(Integer.MAX_VALUE));
        Expect.outOfBounds("far before it", () -> x.out(Integer.MIN_VALUE));
        x.begin(0, 0);
        Expect.same("nothing", 0, x::size);
        Expect.outOfBounds("nothing at 0", () -> x.out(0));
    }
}
