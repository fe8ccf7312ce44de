import java.io.ByteArrayOutputStream;
import java.util.Arrays;

/** Builds the bytes of files by hand, right or wrong, and brings them into an object. */
final class Files {
    static final int NUMERATOR = 25400000;
    static final int DENOMINATOR = 473628672;

    private final ByteArrayOutputStream bytes = new ByteArrayOutputStream();
    private int formerPage = -1;
    private int pages = 0;
    private int lastAt = -1;

    /** A file that has its first command (247), without a comment: the next place is 15. */
    static Files begun() {
        return new Files().first(0);
    }

    /** A file with one page open: the next place is 60. */
    static Files inPage() {
        return begun().page(0);
    }

    int length() {
        return bytes.size();
    }

    Files add(int... more) {
        for (int b : more) {
            bytes.write(b);
        }
        return this;
    }

    Files row(byte[] more) {
        bytes.writeBytes(more);
        return this;
    }

    Files bytes(Files other) {
        return row(other.row());
    }

    Files times(int many, int... more) {
        for (int i = 0; i < many; i++) {
            add(more);
        }
        return this;
    }

    Files four(int... numbers) {
        for (int n : numbers) {
            add(n >> 24, n >> 16, n >> 8, n);
        }
        return this;
    }

    Files first(int comment) {
        add(247, 2).four(NUMERATOR, DENOMINATOR, 1000).add(comment);
        return times(comment, 99);
    }

    /** Begins a page with the counts c, c + 1, .. */
    Files page(int c) {
        int place = length();
        add(139);
        for (int i = 0; i < 10; i++) {
            four(c + i);
        }
        four(formerPage);
        formerPage = place;
        pages++;
        return this;
    }

    Files font(int f, int check, int size, int design, String area, String name) {
        add(243, f).four(check, size, design).add(area.length(), name.length());
        for (char c : (area + name).toCharArray()) {
            add(c);
        }
        return this;
    }

    Files font(int f) {
        return font(f, 7, 8, 9, "", "ab");
    }

    Files last(int formerBy, int numeratorBy, int denominatorBy, int magnificationBy, int pagesBy) {
        lastAt = length();
        add(248).four(formerPage + formerBy, NUMERATOR + numeratorBy, DENOMINATOR + denominatorBy);
        four(1000 + magnificationBy, -11, 12);
        int many = pages + pagesBy;
        return add(0, 3, many >> 8, many);
    }

    Files last() {
        return last(0, 0, 0, 0, 0);
    }

    Files veryLast(int fillers) {
        return add(249).four(lastAt).add(2).times(fillers, 223);
    }

    /** Ends the open page and the file. */
    Files end() {
        return add(140).last().veryLast(4);
    }

    byte[] row() {
        return bytes.toByteArray();
    }

    static void feed(DviBytes x, byte[] row) {
        x.keep(0);
        for (int i = 0; i < row.length; i += 8) {
            int n = Math.min(8, row.length - i);
            long w = 0;
            for (int k = 0; k < n; k++) {
                w = w << 8 | row[i + k] & 255;
            }
            x.feed(w, n);
        }
    }

    DviBytes fed() {
        DviBytes x = new DviBytes();
        feed(x, row());
        return x;
    }

    /** Bytes as numbers 0 .. 255. */
    static String text(byte[] row) {
        StringBuilder text = new StringBuilder();
        for (byte b : row) {
            text.append(text.length() > 0 ? " " : "").append(b & 255);
        }
        return text.toString();
    }

    String text() {
        return text(row());
    }

    /** What is written, from one byte to (not with) another. */
    static String written(DviBytes x, int from, int to) {
        return text(Arrays.copyOfRange(written(x), from, to));
    }

    /** What is written of the marks of the first page, without a comment: behind 139 and 141, before 142 and 140. */
    static String marksOf(DviBytes x) {
        return written(x, 61, x.size() - 2);
    }

    static byte[] written(DviBytes x) {
        byte[] row = new byte[x.size()];
        for (int i = 0; i < row.length; i++) {
            row[i] = (byte) x.out(i);
        }
        return row;
    }
}
