/** Pages written as the short commands of a device independent file, and any bytes read as such a file. */
public final class DviBytes {
    public static final int NONE = -1;

    private static final int MOST_BYTES = 70000;
    private static final int MOST_SHIPPED = 60000;
    private static final int FARTHEST = 1000000000;
    private static final int FONTS = 256;
    private static final int CHARACTERS = 256;
    private static final int COUNTS = 10;
    private static final int LONGEST_NAME = 16;
    private static final int SHEET_MARKS = 500;
    private static final int READ_MARKS = 2000;
    private static final int READ_PAGES = 1300;
    private static final int DEEPEST = 100;
    private static final int PLACE_LIMIT = 100000;

    private static final int SET_NUMBERED = 128;
    private static final int SET_NUMBERED_END = 131;
    private static final int SET_RULE = 132;
    private static final int PUT_NUMBERED_END = 136;
    private static final int PUT_RULE = 137;
    private static final int NOTHING = 138;
    private static final int BEGIN_PAGE = 139;
    private static final int END_PAGE = 140;
    private static final int PUSH = 141;
    private static final int POP = 142;
    private static final int RIGHT = 143;
    private static final int DOWN = 157;
    private static final int FONT_SMALL = 171;
    private static final int FONT_NUMBERED = 235;
    private static final int FONT_NUMBERED_END = 238;
    private static final int ANY_BYTES = 239;
    private static final int ANY_BYTES_END = 242;
    private static final int DEFINE = 243;
    private static final int DEFINE_END = 246;
    private static final int FIRST = 247;
    private static final int LAST = 248;
    private static final int VERY_LAST = 249;
    private static final int FILLER = 223;
    private static final int FILLERS = 4;
    private static final int VERSION = 2;

    /* Both ways order their commands alike: plain, w, x and plain, y, z. */
    private static final int MOVE_OLD_ONE = 4;
    private static final int MOVE_NEW_ONE = 5;
    private static final int MOVE_OLD_TWO = 9;
    private static final int MOVE_NEW_TWO = 10;

    private final Widths widths;
    private final Fonts fonts;
    private final int[] counts;
    private final Sheet sheet;
    private final Writer writer;
    private final Bytes input;
    private final Reading reading;
    private final Reader reader;

    public DviBytes() {
        widths = new Widths();
        fonts = new Fonts();
        counts = new int[COUNTS];
        sheet = new Sheet();
        writer = new Writer(fonts, widths);
        input = new Bytes();
        reading = new Reading();
        reader = new Reader(input, widths, reading);
    }

    public void font(int f, int check, int size, int design, long name, long more, int n)
            throws IllegalArgumentException, IllegalStateException {
        if (!isByte(f) || !isName(name, more, n)) {
            throw new IllegalArgumentException("no such font or name");
        }
        if (writer.hasTold(f)) {
            throw new IllegalStateException("the font was told in the file");
        }
        fonts.define(f, check, size, design);
        fonts.call(f, name, more, n);
    }

    public void width(int f, int c, int w) throws IllegalArgumentException {
        if (!isByte(f) || !isByte(c)) {
            throw new IllegalArgumentException("no such font or character");
        }
        widths.change(f, c, w);
    }

    public void count(int i, int v) throws IllegalArgumentException {
        if (i < 0 || i >= counts.length) {
            throw new IllegalArgumentException("no such count");
        }
        counts[i] = v;
    }

    public void begin(int c, int n) throws IllegalArgumentException {
        if (!isByte(c) || !isByte(n)) {
            throw new IllegalArgumentException("no such comment");
        }
        writer.restart(c, n);
        sheet.clear();
    }

    public int put(int f, int c, int x, int y) throws IllegalArgumentException, UnsupportedOperationException {
        if (!fonts.isDefined(f) || !isByte(c) || !isNear(x) || !isNear(y)) {
            throw new IllegalArgumentException("no such font, character or place");
        }
        if (sheet.isFull()) {
            throw new UnsupportedOperationException("the page is full");
        }
        return sheet.add(f, c, 0, x, y);
    }

    public int rule(int x, int y, int width, int height)
            throws IllegalArgumentException, UnsupportedOperationException {
        if (!isNear(x) || !isNear(y) || !isExtent(width) || !isExtent(height)) {
            throw new IllegalArgumentException("no such place or rule");
        }
        if (sheet.isFull()) {
            throw new UnsupportedOperationException("the page is full");
        }
        return sheet.add(NONE, width, height, x, y);
    }

    public int ship() throws IllegalStateException, ArithmeticException, UnsupportedOperationException {
        if (writer.isClosed()) {
            throw new IllegalStateException("the file is closed");
        }
        if (!writer.planPage(sheet)) {
            throw new ArithmeticException("a place or a move passes an int");
        }
        if (!writer.writePage(sheet, counts)) {
            throw new UnsupportedOperationException("the file would be too long");
        }
        sheet.clear();
        return writer.pageCount();
    }

    public int close() throws IllegalStateException {
        if (writer.isClosed()) {
            throw new IllegalStateException("the file is closed");
        }
        return writer.writeEnd();
    }

    public int size() {
        return writer.bytes().length();
    }

    public int out(int i) throws IndexOutOfBoundsException {
        if (i < 0 || i >= writer.bytes().length()) {
            throw new IndexOutOfBoundsException("no such byte");
        }
        return writer.bytes().at(i);
    }

    public boolean feed(long w, int n) {
        if (n < 1 || n > 8 || n > MOST_BYTES - input.length()) {
            return false;
        }
        for (int i = n - 1; i >= 0; i--) {
            input.add((int) (w >>> (8 * i)));
        }
        return true;
    }

    public boolean keep(int n) {
        if (n < 0 || n > input.length()) {
            return false;
        }
        input.cut(n);
        return true;
    }

    public int copy() {
        input.become(writer.bytes());
        return input.length();
    }

    public int read() {
        reader.restart();
        int fault = reader.readCommands();
        if (fault == 0) {
            return 0;
        }
        reading.clear();
        return PLACE_LIMIT * fault + reader.place();
    }

    public int about(int what) throws IndexOutOfBoundsException {
        switch (what) {
            case 0:
                return reading.markMany;
            case 1:
                return reading.pageMany;
            case 2:
                return reading.fontMany;
            case 3:
                return reading.magnification;
            case 4:
                return reading.greatestV;
            case 5:
                return reading.greatestH;
            case 6:
                return reading.greatestDepth;
            default:
                throw new IndexOutOfBoundsException("nothing is told of that");
        }
    }

    public int mark(int i, int what) throws IndexOutOfBoundsException {
        if (i < 0 || i >= reading.markMany || what < 0 || what >= Reading.MARK_PARTS) {
            throw new IndexOutOfBoundsException("no such mark, or part of one");
        }
        return reading.markPart(i, what);
    }

    public int page(int page, int i) throws IndexOutOfBoundsException {
        if (page < 0 || page >= reading.pageMany || i < 0 || i >= COUNTS) {
            throw new IndexOutOfBoundsException("no such page or count");
        }
        return reading.pagePart(page, i);
    }

    public int told(int k, int what) throws IndexOutOfBoundsException {
        if (k < 0 || k >= reading.fontMany || what < 0) {
            throw new IndexOutOfBoundsException("no such font, or part of one");
        }
        return reading.fontPart(k, what);
    }

    private static boolean isByte(int n) {
        return n >= 0 && n <= 255;
    }

    private static boolean isNear(int place) {
        return place >= -FARTHEST && place <= FARTHEST;
    }

    private static boolean isExtent(int n) {
        return n >= 1 && n <= FARTHEST;
    }

    private static boolean isInt(long n) {
        return n == (int) n;
    }

    private static boolean isName(long name, long more, int n) {
        if (n < 1 || n > LONGEST_NAME) {
            return false;
        }
        for (int i = 0; i < n; i++) {
            int c = letterOf(name, more, i);
            if (c < 33 || c > 126) {
                return false;
            }
        }
        return true;
    }

    private static int letterOf(long name, long more, int i) {
        long eight = i < 8 ? name : more;
        return (int) (eight >>> (8 * (i & 7))) & 255;
    }

    /** Bytes one behind the other; what would come behind the most that there may be is dropped. */
    private static final class Bytes {
        private final byte[] row = new byte[MOST_BYTES];
        private int used;

        int length() {
            return used;
        }

        int at(int i) {
            return i >= 0 && i < used && i < row.length ? row[i] & 255 : 0;
        }

        void add(int b) {
            if (used >= 0 && used < row.length) {
                row[used] = (byte) b;
                used++;
            }
        }

        void addNumber(int n, int bytes) {
            for (int i = bytes - 1; i >= 0; i--) {
                add(n >> (8 * i));
            }
        }

        /** The command of the family that begins with this code whose number has as few bytes as hold n. */
        void addShortest(int code, int n) {
            int bytes = bytesFor(n);
            add(code + bytes - 1);
            addNumber(n, bytes);
        }

        private static int bytesFor(int n) {
            if (n >= -128 && n < 128) {
                return 1;
            }
            if (n >= -32768 && n < 32768) {
                return 2;
            }
            return n >= -8388608 && n < 8388608 ? 3 : 4;
        }

        /** The number of some bytes at a place, not signed unless it has four. */
        int number(int place, int bytes) {
            int n = 0;
            for (int i = 0; i < bytes; i++) {
                n = (n << 8) | at(place + i);
            }
            return n;
        }

        int signedNumber(int place, int bytes) {
            int unused = 32 - 8 * bytes;
            return number(place, bytes) << unused >> unused;
        }

        void cut(int n) {
            if (n >= 0 && n <= used) {
                used = n;
            }
        }

        void become(Bytes other) {
            int n = Math.min(other.used, row.length);
            if (n >= 0 && n <= other.row.length) {
                System.arraycopy(other.row, 0, row, 0, n);
                used = n;
            }
        }
    }

    /** The widths of all characters that can have one. */
    private static final class Widths {
        private final int[] row = new int[FONTS * CHARACTERS];

        int of(int f, int c) {
            return isByte(f) && isByte(c) ? row[f * CHARACTERS + c] : 0;
        }

        void change(int f, int c, int w) {
            if (isByte(f) && isByte(c)) {
                row[f * CHARACTERS + c] = w;
            }
        }
    }

    /** The fonts that marks may be taken from. */
    private static final class Fonts {
        private final int[] checks = new int[FONTS];
        private final int[] sizes = new int[FONTS];
        private final int[] designs = new int[FONTS];
        private final long[] names = new long[FONTS];
        private final long[] mores = new long[FONTS];
        private final int[] lengths = new int[FONTS];

        /* A name has one character at least, so a length of 0 is that of a font nobody told. */
        boolean isDefined(int f) {
            return isByte(f) && lengths[f] > 0;
        }

        void define(int f, int check, int size, int design) {
            if (isByte(f)) {
                checks[f] = check;
                sizes[f] = size;
                designs[f] = design;
            }
        }

        void call(int f, long name, long more, int n) {
            if (isByte(f)) {
                names[f] = name;
                mores[f] = more;
                lengths[f] = n;
            }
        }

        void writeDefinition(int f, Bytes to) {
            if (!isByte(f)) {
                return;
            }
            to.add(DEFINE);
            to.add(f);
            to.addNumber(checks[f], 4);
            to.addNumber(sizes[f], 4);
            to.addNumber(designs[f], 4);
            to.add(0);
            to.add(lengths[f]);
            for (int i = 0; i < lengths[f] && i < LONGEST_NAME; i++) {
                to.add(letterOf(names[f], mores[f], i));
            }
        }
    }

    /** The marks of the page that is put together. */
    private static final class Sheet {
        private static final int PARTS = 5;
        private final int[] parts = new int[SHEET_MARKS * PARTS];
        private int many;

        boolean isFull() {
            return many >= SHEET_MARKS;
        }

        int length() {
            return many;
        }

        int add(int font, int characterOrWidth, int height, int x, int y) {
            int to = many * PARTS;
            if (to >= 0 && to <= parts.length - PARTS) {
                parts[to] = font;
                parts[to + 1] = characterOrWidth;
                parts[to + 2] = height;
                parts[to + 3] = x;
                parts[to + 4] = y;
                many++;
            }
            return many;
        }

        private int part(int i, int what) {
            boolean there = i >= 0 && i < many && i < SHEET_MARKS && what >= 0 && what < PARTS;
            return there ? parts[i * PARTS + what] : 0;
        }

        boolean isRule(int i) {
            return part(i, 0) == NONE;
        }

        int fontOf(int i) {
            return part(i, 0);
        }

        int characterOrWidth(int i) {
            return part(i, 1);
        }

        int height(int i) {
            return part(i, 2);
        }

        int x(int i) {
            return part(i, 3);
        }

        int y(int i) {
            return part(i, 4);
        }

        void clear() {
            many = 0;
        }
    }

    /** The moves of a page along one way, and the two that are remembered while they are written. */
    private static final class Way {
        private final int plain;
        private final int[] moves = new int[SHEET_MARKS];
        private int many;
        private int one;
        private int two;

        Way(int plain) {
            this.plain = plain;
        }

        void clear() {
            many = 0;
            one = 0;
            two = 0;
        }

        /** Plans the move before the next mark; 0 stands for none. */
        void plan(int by) {
            if (many >= 0 && many < moves.length) {
                moves[many] = by;
                many++;
            }
        }

        void write(int i, Bytes to) {
            int by = i >= 0 && i < many && i < moves.length ? moves[i] : 0;
            if (by == 0) {
                return;
            }
            if (by == one) {
                to.add(plain + MOVE_OLD_ONE);
            } else if (by == two) {
                to.add(plain + MOVE_OLD_TWO);
            } else if (!comesBehind(i, by)) {
                to.addShortest(plain, by);
            } else if (!comesBehind(i, one)) {
                one = by;
                to.addShortest(plain + MOVE_NEW_ONE, by);
            } else if (!comesBehind(i, two)) {
                two = by;
                to.addShortest(plain + MOVE_NEW_TWO, by);
            } else {
                to.addShortest(plain, by);
            }
        }

        private boolean comesBehind(int i, int by) {
            if (by == 0 || i < 0) {
                return false;
            }
            for (int k = i + 1; k < many && k < moves.length; k++) {
                if (moves[k] == by) {
                    return true;
                }
            }
            return false;
        }
    }

    /** The file that is written. */
    private static final class Writer {
        private static final int NUMERATOR = 25400000;
        private static final int DENOMINATOR = 473628672;
        private static final int MAGNIFICATION = 1000;
        private static final int MOST_FILLERS = 7;

        private final Fonts fonts;
        private final Widths widths;
        private final Bytes written = new Bytes();
        private final Way right = new Way(RIGHT);
        private final Way down = new Way(DOWN);
        private final boolean[] told = new boolean[FONTS];
        private final int[] toldInOrder = new int[FONTS];
        private int toldMany;
        private int commentCharacter;
        private int commentLength;
        private boolean closed;
        private int pageMany;
        private int lastPage = NONE;
        private int greatestV;
        private int greatestH;
        /* What the greatest ones become once the planned page is written. */
        private int plannedV;
        private int plannedH;

        Writer(Fonts fonts, Widths widths) {
            this.fonts = fonts;
            this.widths = widths;
        }

        Bytes bytes() {
            return written;
        }

        boolean isClosed() {
            return closed;
        }

        int pageCount() {
            return pageMany;
        }

        boolean hasTold(int f) {
            return isByte(f) && told[f];
        }

        void restart(int c, int n) {
            goBack(0, 0);
            commentCharacter = c;
            commentLength = n;
            closed = false;
            pageMany = 0;
            lastPage = NONE;
            greatestV = 0;
            greatestH = 0;
        }

        private void goBack(int length, int fontsTold) {
            written.cut(length);
            for (int i = fontsTold; i >= 0 && i < toldMany && i < FONTS; i++) {
                int f = toldInOrder[i];
                if (isByte(f)) {
                    told[f] = false;
                }
            }
            toldMany = fontsTold;
        }

        /** Finds the moves of a page; false if a place or a move passes an int. */
        boolean planPage(Sheet sheet) {
            right.clear();
            down.clear();
            plannedV = greatestV;
            plannedH = greatestH;
            int h = 0;
            int v = 0;
            for (int i = 0; i < sheet.length(); i++) {
                int x = sheet.x(i);
                int y = sheet.y(i);
                long by = (long) x - h;
                long behind = (long) x + growth(sheet, i);
                if (!isInt(by) || !isInt(behind)) {
                    return false;
                }
                right.plan((int) by);
                down.plan(y - v);
                h = (int) behind;
                v = y;
                plannedV = Math.max(plannedV, v);
                plannedH = Math.max(plannedH, h);
            }
            return true;
        }

        private int growth(Sheet sheet, int i) {
            return sheet.isRule(i) ? 0 : widths.of(sheet.fontOf(i), sheet.characterOrWidth(i));
        }

        /** Writes the page that was planned; false, with nothing changed, if the file would be too long. */
        boolean writePage(Sheet sheet, int[] counts) {
            int lengthBefore = written.length();
            int toldBefore = toldMany;
            writeStart();
            int place = written.length();
            written.add(BEGIN_PAGE);
            for (int i = 0; i < counts.length; i++) {
                written.addNumber(counts[i], 4);
            }
            written.addNumber(lastPage, 4);
            written.add(PUSH);
            writeMarks(sheet);
            written.add(POP);
            written.add(END_PAGE);
            if (written.length() > MOST_SHIPPED) {
                goBack(lengthBefore, toldBefore);
                return false;
            }
            lastPage = place;
            pageMany++;
            greatestV = plannedV;
            greatestH = plannedH;
            return true;
        }

        private void writeStart() {
            if (written.length() > 0) {
                return;
            }
            written.add(FIRST);
            written.add(VERSION);
            writeScale();
            written.add(commentLength);
            for (int i = 0; i < commentLength; i++) {
                written.add(commentCharacter);
            }
        }

        private void writeScale() {
            written.addNumber(NUMERATOR, 4);
            written.addNumber(DENOMINATOR, 4);
            written.addNumber(MAGNIFICATION, 4);
        }

        private void writeMarks(Sheet sheet) {
            int fontAtHand = NONE;
            for (int i = 0; i < sheet.length(); i++) {
                down.write(i, written);
                right.write(i, written);
                if (sheet.isRule(i)) {
                    written.add(PUT_RULE);
                    written.addNumber(sheet.height(i), 4);
                    written.addNumber(sheet.characterOrWidth(i), 4);
                } else {
                    if (sheet.fontOf(i) != fontAtHand) {
                        fontAtHand = sheet.fontOf(i);
                        writeFont(fontAtHand);
                    }
                    writeCharacter(sheet.characterOrWidth(i));
                }
            }
        }

        private void writeFont(int f) {
            if (!hasTold(f)) {
                fonts.writeDefinition(f, written);
                remember(f);
            }
            if (f < FONT_NUMBERED - FONT_SMALL) {
                written.add(FONT_SMALL + f);
            } else {
                written.add(FONT_NUMBERED);
                written.add(f);
            }
        }

        private void remember(int f) {
            if (isByte(f) && toldMany >= 0 && toldMany < toldInOrder.length) {
                told[f] = true;
                toldInOrder[toldMany] = f;
                toldMany++;
            }
        }

        private void writeCharacter(int c) {
            if (c >= SET_NUMBERED) {
                written.add(SET_NUMBERED);
            }
            written.add(c);
        }

        int writeEnd() {
            writeStart();
            int place = written.length();
            written.add(LAST);
            written.addNumber(lastPage, 4);
            writeScale();
            written.addNumber(greatestV, 4);
            written.addNumber(greatestH, 4);
            written.addNumber(pageMany > 0 ? 1 : 0, 2);
            written.addNumber(pageMany, 2);
            for (int i = toldMany - 1; i >= 0 && i < toldInOrder.length; i--) {
                fonts.writeDefinition(toldInOrder[i], written);
            }
            written.add(VERY_LAST);
            written.addNumber(place, 4);
            written.add(VERSION);
            for (int i = 0; i < MOST_FILLERS && (i < FILLERS || written.length() % 4 != 0); i++) {
                written.add(FILLER);
            }
            closed = true;
            return written.length();
        }
    }

    /** What was read: rows that are made once, of which only the first ones count. */
    private static final class Reading {
        private static final int MARK_PARTS = 6;
        private static final int FONT_PARTS = 5;
        private static final int NAME_LENGTH = 4;

        private final int[] marks = new int[READ_MARKS * MARK_PARTS];
        private final int[] pageCounts = new int[READ_PAGES * COUNTS];
        private final int[] fontParts = new int[FONTS * FONT_PARTS];
        private final int[] nameStarts = new int[FONTS];
        private final Bytes names = new Bytes();
        private int markMany;
        private int pageMany;
        private int fontMany;
        private int magnification;
        private int greatestV;
        private int greatestH;
        private int greatestDepth;

        void clear() {
            names.cut(0);
            markMany = 0;
            pageMany = 0;
            fontMany = 0;
            magnification = 0;
            greatestV = 0;
            greatestH = 0;
            greatestDepth = 0;
        }

        int markPart(int i, int what) {
            boolean there = isIn(i, markMany, READ_MARKS) && isIn(what, MARK_PARTS, MARK_PARTS);
            return there ? marks[i * MARK_PARTS + what] : 0;
        }

        int pagePart(int i, int what) {
            boolean there = isIn(i, pageMany, READ_PAGES) && isIn(what, COUNTS, COUNTS);
            return there ? pageCounts[i * COUNTS + what] : 0;
        }

        int fontPart(int k, int what) {
            if (!isIn(k, fontMany, FONTS) || what < 0) {
                return 0;
            }
            if (what < FONT_PARTS) {
                return fontParts[k * FONT_PARTS + what];
            }
            int i = what - FONT_PARTS;
            return i < fontParts[k * FONT_PARTS + NAME_LENGTH] ? names.at(nameStarts[k] + i) : 0;
        }

        private static boolean isIn(int i, int many, int most) {
            return i >= 0 && i < many && i < most;
        }

        /** A mark of the latest page; false if there are too many. */
        boolean addMark(int font, int characterOrWidth, int h, int v, int height) {
            if (markMany < 0 || markMany >= READ_MARKS) {
                return false;
            }
            int to = markMany * MARK_PARTS;
            marks[to] = pageMany - 1;
            marks[to + 1] = font;
            marks[to + 2] = characterOrWidth;
            marks[to + 3] = h;
            marks[to + 4] = v;
            marks[to + 5] = height;
            markMany++;
            return true;
        }

        /** A page whose counts stand at a place; false if there are too many. */
        boolean addPage(Bytes from, int place) {
            if (pageMany < 0 || pageMany >= READ_PAGES) {
                return false;
            }
            for (int i = 0; i < COUNTS; i++) {
                pageCounts[pageMany * COUNTS + i] = from.number(place + 4 * i, 4);
            }
            pageMany++;
            return true;
        }

        /** Which of the fonts has this number, or NONE. */
        int findFont(int number) {
            for (int k = 0; k < fontMany && k < FONTS; k++) {
                if (fontParts[k * FONT_PARTS] == number) {
                    return k;
                }
            }
            return NONE;
        }

        /** A font whose check, sizes and name's lengths stand at a place; false if there are too many. */
        boolean addFont(int number, Bytes from, int place) {
            if (fontMany < 0 || fontMany >= FONTS) {
                return false;
            }
            int to = fontMany * FONT_PARTS;
            int nameLength = nameLengthAt(from, place);
            fontParts[to] = number;
            for (int i = 0; i < 3; i++) {
                fontParts[to + 1 + i] = from.number(place + 4 * i, 4);
            }
            fontParts[to + NAME_LENGTH] = nameLength;
            nameStarts[fontMany] = names.length();
            for (int i = 0; i < nameLength; i++) {
                names.add(from.at(place + 14 + i));
            }
            fontMany++;
            return true;
        }

        /** Whether what stands at a place tells the k-th font as it was told. */
        boolean isSameFont(int k, Bytes from, int place) {
            for (int i = 0; i < 3; i++) {
                if (fontPart(k, 1 + i) != from.number(place + 4 * i, 4)) {
                    return false;
                }
            }
            int nameLength = nameLengthAt(from, place);
            if (fontPart(k, NAME_LENGTH) != nameLength) {
                return false;
            }
            for (int i = 0; i < nameLength; i++) {
                if (fontPart(k, FONT_PARTS + i) != from.at(place + 14 + i)) {
                    return false;
                }
            }
            return true;
        }

        private static int nameLengthAt(Bytes from, int place) {
            return from.at(place + 12) + from.at(place + 13);
        }
    }

    /** Reads the input command by command; each step answers its fault, or 0. */
    private static final class Reader {
        private static final int MISSING = 1;
        private static final int MISPLACED = 2;
        private static final int BAD_FONT = 3;
        private static final int BAD_DEPTH = 4;
        private static final int BAD_PLACE = 5;
        private static final int BAD_SUM = 6;
        private static final int NO_FONT = 7;
        private static final int TOO_FAR = 8;
        private static final int TOO_MANY = 9;

        private static final int AT_START = 0;
        private static final int BETWEEN_PAGES = 1;
        private static final int IN_PAGE = 2;
        private static final int BEHIND_LAST = 3;
        private static final int BEHIND_VERY_LAST = 4;

        /* h, v, w, x, y, z stand in one row, so that push and pop take them together. */
        private static final int H = 0;
        private static final int V = 1;
        private static final int W = 2;
        private static final int X = 3;
        private static final int Y = 4;
        private static final int Z = 5;
        private static final int SIX = 6;

        /* The first codes of families of four, whose numbers have 1, 2, 3 and 4 bytes. */
        private static final int[] FAMILIES = {128, 133, 143, 148, 153, 157, 162, 167, 235, 239, 243};

        private final Bytes input;
        private final Widths widths;
        private final Reading reading;
        private final int[] six = new int[SIX];
        private final int[] pushed = new int[DEEPEST * SIX];
        private int depth;
        private int stage;
        private int at;
        private int code;
        private int numberBytes;
        private int fontAtHand;
        private int formerPage;
        private int lastAt;
        private int fillers;

        Reader(Bytes input, Widths widths, Reading reading) {
            this.input = input;
            this.widths = widths;
            this.reading = reading;
        }

        void restart() {
            reading.clear();
            stage = AT_START;
            at = 0;
            formerPage = NONE;
            fillers = 0;
        }

        /** Where it is: behind a fault, the fault's place. */
        int place() {
            return at;
        }

        int readCommands() {
            int length = input.length();
            /* A command has one byte at least, so there are no more of them than bytes. */
            for (int turn = 0; turn < length && at < length; turn++) {
                code = input.at(at);
                numberBytes = bytesOfNumber(code);
                int behind = bytesBehind();
                if (behind < 0) {
                    return MISSING;
                }
                int fault = canStand() ? obey() : MISPLACED;
                if (fault != 0) {
                    return fault;
                }
                at += 1 + behind;
            }
            /* Fillers are counted behind 249 alone, so a file without it has none. */
            return fillers < FILLERS ? MISPLACED : 0;
        }

        private static int bytesOfNumber(int code) {
            for (int i = 0; i < FAMILIES.length; i++) {
                int first = FAMILIES[i];
                if (code >= first && code < first + 4) {
                    return code - first + 1;
                }
            }
            return 0;
        }

        /** How many bytes the command has behind its code, or NONE if some are missing. */
        private int bytesBehind() {
            int fixed = numberBytes + fixedBytes();
            int left = input.length() - at - 1;
            if (fixed > left) {
                return NONE;
            }
            int more = bytesOfText(at + 1 + fixed);
            return more < 0 || more > left - fixed ? NONE : fixed + more;
        }

        private int fixedBytes() {
            switch (code) {
                case SET_RULE:
                case PUT_RULE:
                    return 8;
                case BEGIN_PAGE:
                    return 4 * COUNTS + 4;
                case FIRST:
                    return 14;
                case LAST:
                    return 28;
                case VERY_LAST:
                    return 5;
                default:
                    return isDefinition() ? 14 : 0;
            }
        }

        /** How long the text at a place is, by the lengths that stand before it. */
        private int bytesOfText(int place) {
            if (code >= ANY_BYTES && code <= ANY_BYTES_END) {
                return input.number(place - numberBytes, numberBytes);
            }
            if (isDefinition()) {
                return input.at(place - 2) + input.at(place - 1);
            }
            return code == FIRST ? input.at(place - 1) : 0;
        }

        private boolean isDefinition() {
            return code >= DEFINE && code <= DEFINE_END;
        }

        private boolean canStand() {
            boolean anywhere = code == NOTHING || isDefinition();
            switch (stage) {
                case AT_START:
                    return code == FIRST && input.at(at + 1) == VERSION;
                case BETWEEN_PAGES:
                    return anywhere || code == BEGIN_PAGE || code == LAST;
                case IN_PAGE:
                    return code < FIRST && code != BEGIN_PAGE;
                case BEHIND_LAST:
                    return anywhere || code == VERY_LAST && input.at(at + 5) == VERSION;
                case BEHIND_VERY_LAST:
                    return code == FILLER;
                default:
                    return false;
            }
        }

        private int obey() {
            if (stage == BEHIND_VERY_LAST) {
                /* Here 223 takes no font, as it would in a page. */
                fillers++;
                return 0;
            }
            if (code >= RIGHT && code < FONT_SMALL) {
                return obeyMove();
            }
            if (code >= FONT_SMALL && code <= FONT_NUMBERED_END) {
                return obeyFont();
            }
            if (isDefinition()) {
                return obeyDefinition();
            }
            switch (code) {
                case SET_RULE:
                case PUT_RULE:
                    return obeyRule();
                case BEGIN_PAGE:
                    return obeyBegin();
                case END_PAGE:
                    stage = BETWEEN_PAGES;
                    return depth > 0 ? BAD_DEPTH : 0;
                case PUSH:
                    return obeyPush();
                case POP:
                    return obeyPop();
                case FIRST:
                    stage = BETWEEN_PAGES;
                    reading.magnification = input.number(at + 10, 4);
                    return 0;
                case LAST:
                    return obeyLast();
                case VERY_LAST:
                    stage = BEHIND_VERY_LAST;
                    return input.number(at + 1, 4) == lastAt ? 0 : BAD_PLACE;
                default:
                    return code <= PUT_NUMBERED_END ? obeyCharacter() : 0;
            }
        }

        private int obeyCharacter() {
            if (fontAtHand == NONE) {
                return NO_FONT;
            }
            int f = reading.fontPart(fontAtHand, 0);
            int c = numberBytes > 0 ? input.number(at + 1, numberBytes) : code;
            int h = six[H];
            if (code <= SET_NUMBERED_END && !grow(H, widths.of(f, c))) {
                return TOO_FAR;
            }
            return reading.addMark(f, c, h, six[V], 0) ? 0 : TOO_MANY;
        }

        private int obeyRule() {
            int height = input.number(at + 1, 4);
            int width = input.number(at + 5, 4);
            int h = six[H];
            if (code == SET_RULE && !grow(H, width)) {
                return TOO_FAR;
            }
            if (height <= 0 || width <= 0) {
                return 0;
            }
            return reading.addMark(NONE, width, h, six[V], height) ? 0 : TOO_MANY;
        }

        /** Adds to h or v; false if that passes an int. */
        private boolean grow(int which, int by) {
            if (which < 0 || which >= six.length) {
                return false;
            }
            long sum = (long) six[which] + by;
            if (!isInt(sum)) {
                return false;
            }
            six[which] = (int) sum;
            return true;
        }

        private int obeyMove() {
            boolean along = code < DOWN;
            int kind = code - (along ? RIGHT : DOWN);
            boolean second = kind >= MOVE_OLD_TWO;
            int remembered = along ? (second ? X : W) : (second ? Z : Y);
            int by = numberBytes > 0 ? input.signedNumber(at + 1, numberBytes) : six[remembered];
            if (kind >= MOVE_OLD_ONE) {
                six[remembered] = by;
            }
            return grow(along ? H : V, by) ? 0 : TOO_FAR;
        }

        private int obeyFont() {
            int f = numberBytes > 0 ? input.number(at + 1, numberBytes) : code - FONT_SMALL;
            fontAtHand = reading.findFont(f);
            return fontAtHand == NONE ? BAD_FONT : 0;
        }

        private int obeyDefinition() {
            int f = input.number(at + 1, numberBytes);
            int place = at + 1 + numberBytes;
            int k = reading.findFont(f);
            if (k != NONE) {
                return reading.isSameFont(k, input, place) ? 0 : BAD_FONT;
            }
            if (stage == BEHIND_LAST) {
                return BAD_FONT;
            }
            return reading.addFont(f, input, place) ? 0 : TOO_MANY;
        }

        private int obeyBegin() {
            if (input.number(at + 1 + 4 * COUNTS, 4) != formerPage) {
                return BAD_PLACE;
            }
            if (!reading.addPage(input, at + 1)) {
                return TOO_MANY;
            }
            formerPage = at;
            stage = IN_PAGE;
            fontAtHand = NONE;
            depth = 0;
            for (int i = 0; i < six.length; i++) {
                six[i] = 0;
            }
            return 0;
        }

        private int obeyPush() {
            if (depth < 0 || depth >= DEEPEST) {
                return BAD_DEPTH;
            }
            for (int i = 0; i < SIX; i++) {
                pushed[depth * SIX + i] = six[i];
            }
            depth++;
            reading.greatestDepth = Math.max(reading.greatestDepth, depth);
            return 0;
        }

        private int obeyPop() {
            if (depth < 1 || depth > DEEPEST) {
                return BAD_DEPTH;
            }
            depth--;
            for (int i = 0; i < SIX; i++) {
                six[i] = pushed[depth * SIX + i];
            }
            return 0;
        }

        private int obeyLast() {
            if (input.number(at + 1, 4) != formerPage) {
                return BAD_PLACE;
            }
            /* The first (247) stands at place 0, with its scale at 2. */
            for (int i = 0; i < 3; i++) {
                if (input.number(at + 5 + 4 * i, 4) != input.number(2 + 4 * i, 4)) {
                    return BAD_SUM;
                }
            }
            if (input.number(at + 27, 2) != (reading.pageMany & 65535)) {
                return BAD_SUM;
            }
            reading.greatestV = input.number(at + 17, 4);
            reading.greatestH = input.number(at + 21, 4);
            lastAt = at;
            stage = BEHIND_LAST;
            return 0;
        }
    }
}
