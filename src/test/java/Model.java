import java.io.ByteArrayOutputStream;
import java.nio.BufferUnderflowException;
import java.nio.ByteBuffer;
import java.util.ArrayDeque;
import java.util.ArrayList;
import java.util.Arrays;
import java.util.Deque;
import java.util.HashMap;
import java.util.LinkedHashMap;
import java.util.List;
import java.util.Map;

/** The document once more, in another style: lists, maps, and exceptions for faults. */
final class Model {
    private record Font(int check, int size, int design, String name) {
    }

    private record Mark(int page, int font, int what, int h, int v, int height) {
        int part(int i) {
            return new int[] {page, font, what, h, v, height}[i];
        }
    }

    private static final class Fault extends RuntimeException {
        private static final long serialVersionUID = 1;
        private final int answer;

        Fault(int kind, int place) {
            answer = 100000 * kind + place;
        }
    }

    private final Map<Integer, Font> fonts = new HashMap<>();
    private final Map<Integer, Integer> widths = new HashMap<>();
    private final int[] counts = new int[10];
    private byte[] written = {};
    private List<Integer> toldInFile = new ArrayList<>();
    private byte[] comment = {};
    private List<Mark> sheet = new ArrayList<>();
    private boolean closed;
    private int pageMany;
    private int lastPage = -1;
    private int topV;
    private int topH;
    private byte[] input = {};
    private Reading read = new Reading();

    private static void need(boolean good) {
        if (!good) {
            throw new IllegalArgumentException();
        }
    }

    private static boolean in(long n, long least, long most) {
        return least <= n && n <= most;
    }

    private int widthOf(int f, int c) {
        return in(f, 0, 255) && in(c, 0, 255) ? widths.getOrDefault(256 * f + c, 0) : 0;
    }

    void font(int f, int check, int size, int design, long name, long more, int n) {
        need(in(f, 0, 255) && in(n, 1, 16));
        ByteBuffer both = ByteBuffer.allocate(16).order(java.nio.ByteOrder.LITTLE_ENDIAN).putLong(name).putLong(more);
        StringBuilder text = new StringBuilder();
        for (int i = 0; i < n; i++) {
            need(in(both.get(i), 33, 126));
            text.append((char) both.get(i));
        }
        if (toldInFile.contains(f)) {
            throw new IllegalStateException();
        }
        fonts.put(f, new Font(check, size, design, text.toString()));
    }

    void width(int f, int c, int w) {
        need(in(f, 0, 255) && in(c, 0, 255));
        widths.put(256 * f + c, w);
    }

    void count(int i, int v) {
        need(in(i, 0, 9));
        counts[i] = v;
    }

    void begin(int c, int n) {
        need(in(c, 0, 255) && in(n, 0, 255));
        written = new byte[0];
        toldInFile = new ArrayList<>();
        comment = new byte[n];
        Arrays.fill(comment, (byte) c);
        sheet = new ArrayList<>();
        closed = false;
        pageMany = 0;
        lastPage = -1;
        topV = 0;
        topH = 0;
    }

    private int come(Mark mark) {
        need(in(mark.h, -1000000000, 1000000000) && in(mark.v, -1000000000, 1000000000));
        if (sheet.size() == 500) {
            throw new UnsupportedOperationException();
        }
        sheet.add(mark);
        return sheet.size();
    }

    int put(int f, int c, int x, int y) {
        need(fonts.containsKey(f) && in(c, 0, 255));
        return come(new Mark(0, f, c, x, y, 0));
    }

    int rule(int x, int y, int width, int height) {
        need(in(width, 1, 1000000000) && in(height, 1, 1000000000));
        return come(new Mark(0, -1, width, x, y, height));
    }

    private static final class Out extends ByteArrayOutputStream {
        Out bytes(int... row) {
            for (int b : row) {
                write(b);
            }
            return this;
        }

        Out four(int... row) {
            for (int n : row) {
                writeBytes(ByteBuffer.allocate(4).putInt(n).array());
            }
            return this;
        }
    }

    private Out start() {
        Out out = new Out();
        out.writeBytes(written);
        if (out.size() == 0) {
            out.bytes(247, 2).four(25400000, 473628672, 1000).bytes(comment.length);
            out.writeBytes(comment);
        }
        return out;
    }

    private void define(Out out, int f) {
        Font font = fonts.get(f);
        out.bytes(243, f).four(font.check, font.size, font.design).bytes(0, font.name.length());
        font.name.chars().forEach(out::write);
    }

    /** The commands of all the moves of one way, in order. */
    private static List<byte[]> moves(List<Integer> moves, int plain) {
        List<byte[]> commands = new ArrayList<>();
        int w = 0;
        int x = 0;
        for (int i = 0; i < moves.size(); i++) {
            int d = moves.get(i);
            List<Integer> later = moves.subList(i + 1, moves.size());
            boolean awaitedW = w != 0 && later.contains(w);
            boolean awaitedX = x != 0 && later.contains(x);
            if (d == w) {
                commands.add(new byte[] {(byte) (plain + 4)});
            } else if (d == x) {
                commands.add(new byte[] {(byte) (plain + 9)});
            } else if (later.contains(d) && !awaitedW) {
                w = d;
                commands.add(numbered(plain + 5, d));
            } else if (later.contains(d) && !awaitedX) {
                x = d;
                commands.add(numbered(plain + 10, d));
            } else {
                commands.add(numbered(plain, d));
            }
        }
        return commands;
    }

    private static byte[] numbered(int code, int d) {
        byte[] row = java.math.BigInteger.valueOf(d).toByteArray();
        byte[] all = new byte[row.length + 1];
        all[0] = (byte) (code + row.length - 1);
        System.arraycopy(row, 0, all, 1, row.length);
        return all;
    }

    int ship() {
        if (closed) {
            throw new IllegalStateException();
        }
        List<Integer> rights = new ArrayList<>();
        List<Integer> downs = new ArrayList<>();
        int h = 0;
        int v = 0;
        int newV = topV;
        int newH = topH;
        for (Mark mark : sheet) {
            rights.add(Math.subtractExact(mark.h, h));
            downs.add(mark.v - v);
            h = mark.font < 0 ? mark.h : Math.addExact(mark.h, widthOf(mark.font, mark.what));
            v = mark.v;
            newV = Math.max(newV, v);
            newH = Math.max(newH, h);
        }
        Deque<byte[]> right = new ArrayDeque<>(moves(rights.stream().filter(d -> d != 0).toList(), 143));
        Deque<byte[]> down = new ArrayDeque<>(moves(downs.stream().filter(d -> d != 0).toList(), 157));
        Out out = start();
        int page = out.size();
        List<Integer> newTold = new ArrayList<>(toldInFile);
        out.bytes(139).four(counts).four(lastPage).bytes(141);
        int hand = -1;
        for (int i = 0; i < sheet.size(); i++) {
            Mark mark = sheet.get(i);
            if (downs.get(i) != 0) {
                out.writeBytes(down.remove());
            }
            if (rights.get(i) != 0) {
                out.writeBytes(right.remove());
            }
            if (mark.font < 0) {
                out.bytes(137).four(mark.height, mark.what);
                continue;
            }
            if (hand != mark.font) {
                hand = mark.font;
                if (!newTold.contains(hand)) {
                    newTold.add(hand);
                    define(out, hand);
                }
                out.bytes(hand < 64 ? new int[] {171 + hand} : new int[] {235, hand});
            }
            out.bytes(mark.what < 128 ? new int[] {mark.what} : new int[] {128, mark.what});
        }
        out.bytes(142, 140);
        if (out.size() > 60000) {
            throw new UnsupportedOperationException();
        }
        written = out.toByteArray();
        toldInFile = newTold;
        topV = newV;
        topH = newH;
        lastPage = page;
        sheet = new ArrayList<>();
        return ++pageMany;
    }

    int close() {
        if (closed) {
            throw new IllegalStateException();
        }
        Out out = start();
        int last = out.size();
        out.bytes(248).four(lastPage, 25400000, 473628672, 1000, topV, topH);
        out.bytes(0, pageMany == 0 ? 0 : 1, pageMany >> 8, pageMany);
        for (int i = toldInFile.size() - 1; i >= 0; i--) {
            define(out, toldInFile.get(i));
        }
        out.bytes(249).four(last).bytes(2, 223, 223, 223, 223);
        while (out.size() % 4 != 0) {
            out.bytes(223);
        }
        written = out.toByteArray();
        closed = true;
        return written.length;
    }

    int size() {
        return written.length;
    }

    private static void has(boolean good) {
        if (!good) {
            throw new IndexOutOfBoundsException();
        }
    }

    int out(int i) {
        has(in(i, 0, written.length - 1));
        return written[i] & 255;
    }

    boolean feed(long w, int n) {
        if (!in(n, 1, 8) || input.length + n > 70000) {
            return false;
        }
        byte[] eight = ByteBuffer.allocate(8).putLong(w).array();
        int before = input.length;
        input = Arrays.copyOf(input, before + n);
        System.arraycopy(eight, 8 - n, input, before, n);
        return true;
    }

    boolean keep(int n) {
        boolean good = in(n, 0, input.length);
        if (good) {
            input = Arrays.copyOf(input, n);
        }
        return good;
    }

    int copy() {
        input = written.clone();
        return input.length;
    }

    int read() {
        read = new Reading();
        try {
            Reading next = new Reading();
            next.all(ByteBuffer.wrap(input.clone()));
            read = next;
            return 0;
        } catch (Fault fault) {
            return fault.answer;
        }
    }

    int about(int what) {
        has(in(what, 0, 6));
        return new int[] {read.marks.size(), read.pages.size(), read.told.size(), read.magnification, read.saidV,
            read.saidH, read.deepest}[what];
    }

    int mark(int i, int what) {
        has(in(i, 0, read.marks.size() - 1) && in(what, 0, 5));
        return read.marks.get(i).part(what);
    }

    int page(int page, int i) {
        has(in(page, 0, read.pages.size() - 1) && in(i, 0, 9));
        return read.pages.get(page)[i];
    }

    int told(int k, int what) {
        has(in(k, 0, read.told.size() - 1) && what >= 0);
        int number = new ArrayList<>(read.told.keySet()).get(k);
        Font font = read.told.get(number);
        if (what >= 5) {
            return what - 5 < font.name.length() ? font.name.charAt(what - 5) : 0;
        }
        return new int[] {number, font.check, font.size, font.design, font.name.length()}[what];
    }

    /** One command, taken off the bytes whole before it is looked at. */
    private static final class Command {
        private final int at;
        private final int code;
        private int number;
        private boolean numbered;
        private int[] fours = {};
        private int[] small = {};
        private String text = "";

        Command(ByteBuffer from) {
            at = from.position();
            code = from.get() & 255;
            try {
                take(from);
            } catch (BufferUnderflowException e) {
                throw new Fault(1, at);
            }
        }

        private void take(ByteBuffer from) {
            if (in(code, 128, 131) || in(code, 133, 136)) {
                number(from, code < 132 ? 128 : 133, false);
            } else if (code == 132 || code == 137) {
                fours(from, 2);
            } else if (code == 139) {
                fours(from, 11);
            } else if (in(code, 143, 170) && code != 147 && code != 152 && code != 161 && code != 166) {
                int first = 143;
                for (int start : new int[] {148, 153, 157, 162, 167}) {
                    first = code >= start ? start : first;
                }
                number(from, first, true);
            } else if (in(code, 235, 238)) {
                number(from, 235, false);
            } else if (in(code, 239, 242)) {
                number(from, 239, false);
                text(from, number);
            } else if (in(code, 243, 246)) {
                number(from, 243, false);
                fours(from, 3);
                small(from, 2);
                text(from, small[0] + small[1]);
            } else if (code == 247) {
                small(from, 1);
                fours(from, 3);
                text(from, from.get() & 255);
            } else if (code == 248) {
                fours(from, 6);
                small(from, 4);
            } else if (code == 249) {
                fours(from, 1);
                small(from, 1);
            }
        }

        private void number(ByteBuffer from, int first, boolean signed) {
            byte[] row = new byte[code - first + 1];
            from.get(row);
            boolean asSigned = signed || row.length == 4;
            number = (asSigned ? new java.math.BigInteger(row) : new java.math.BigInteger(1, row)).intValueExact();
            numbered = true;
        }

        private void fours(ByteBuffer from, int many) {
            fours = new int[many];
            for (int i = 0; i < many; i++) {
                fours[i] = from.getInt();
            }
        }

        private void small(ByteBuffer from, int many) {
            small = new int[many];
            for (int i = 0; i < many; i++) {
                small[i] = from.get() & 255;
            }
        }

        private void text(ByteBuffer from, int many) {
            if (many < 0 || many > from.remaining()) {
                throw new BufferUnderflowException();
            }
            byte[] row = new byte[many];
            from.get(row);
            text = new String(row, java.nio.charset.StandardCharsets.ISO_8859_1);
        }

        void must(boolean good, int fault) {
            if (!good) {
                throw new Fault(fault, at);
            }
        }
    }

    private final class Reading {
        private final List<Mark> marks = new ArrayList<>();
        private final List<int[]> pages = new ArrayList<>();
        private final Map<Integer, Font> told = new LinkedHashMap<>();
        private int magnification;
        private int saidV;
        private int saidH;
        private int deepest;
        private int former = -1;
        private long[] now = new long[6];
        private final Deque<long[]> stack = new ArrayDeque<>();
        private Integer hand;

        private Command next(ByteBuffer from) {
            if (!from.hasRemaining()) {
                throw new Fault(2, from.limit());
            }
            return new Command(from);
        }

        void all(ByteBuffer from) {
            Command first = next(from);
            first.must(first.code == 247 && first.small[0] == 2, 2);
            Command c = next(from);
            while (c.code != 248) {
                if (c.code == 139) {
                    onePage(c, from);
                } else if (in(c.code, 243, 246)) {
                    tell(c, true);
                } else {
                    c.must(c.code == 138, 2);
                }
                c = next(from);
            }
            c.must(c.fours[0] == former, 5);
            c.must(c.fours[1] == first.fours[0] && c.fours[2] == first.fours[1] && c.fours[3] == first.fours[2], 6);
            c.must(c.small[2] * 256 + c.small[3] == pages.size() % 65536, 6);
            magnification = c.fours[3];
            saidV = c.fours[4];
            saidH = c.fours[5];
            int last = c.at;
            c = next(from);
            while (c.code != 249) {
                if (in(c.code, 243, 246)) {
                    tell(c, false);
                } else {
                    c.must(c.code == 138, 2);
                }
                c = next(from);
            }
            c.must(c.small[0] == 2, 2);
            c.must(c.fours[0] == last, 5);
            int start = from.position();
            while (from.hasRemaining()) {
                Command behind = next(from);
                behind.must(behind.code == 223, 2);
            }
            if (from.limit() < start + 4) {
                throw new Fault(2, from.limit());
            }
        }

        private void tell(Command c, boolean newOnes) {
            Font font = new Font(c.fours[0], c.fours[1], c.fours[2], c.text);
            Font before = told.get(c.number);
            c.must(before == null ? newOnes : before.equals(font), 3);
            told.put(c.number, font);
            c.must(told.size() <= 256, 9);
        }

        private void onePage(Command begin, ByteBuffer from) {
            begin.must(begin.fours[10] == former, 5);
            former = begin.at;
            pages.add(Arrays.copyOf(begin.fours, 10));
            begin.must(pages.size() <= 1300, 9);
            now = new long[6];
            stack.clear();
            hand = null;
            Command c = next(from);
            while (c.code != 140) {
                c.must(c.code != 139 && c.code < 247, 2);
                obey(c);
                c = next(from);
            }
            c.must(stack.isEmpty(), 4);
        }

        private void obey(Command c) {
            if (c.code == 132 || c.code == 137) {
                boolean seen = c.fours[0] > 0 && c.fours[1] > 0;
                mark(c, new Mark(pages.size() - 1, -1, c.fours[1], (int) now[0], (int) now[1], c.fours[0]), seen,
                        c.code == 132 ? c.fours[1] : 0);
            } else if (c.code <= 136) {
                c.must(hand != null, 7);
                int character = c.numbered ? c.number : c.code;
                mark(c, new Mark(pages.size() - 1, hand, character, (int) now[0], (int) now[1], 0), true,
                        c.code < 132 ? widthOf(hand, character) : 0);
            } else if (c.code == 141) {
                stack.push(now.clone());
                c.must(stack.size() <= 100, 4);
                deepest = Math.max(deepest, stack.size());
            } else if (c.code == 142) {
                c.must(!stack.isEmpty(), 4);
                now = stack.pop();
            } else if (in(c.code, 143, 156)) {
                move(c, 0, 143, 2);
            } else if (in(c.code, 157, 170)) {
                move(c, 1, 157, 4);
            } else if (in(c.code, 171, 238)) {
                hand = c.numbered ? c.number : c.code - 171;
                c.must(told.containsKey(hand), 3);
            } else if (in(c.code, 243, 246)) {
                tell(c, true);
            }
        }

        private void mark(Command c, Mark mark, boolean seen, int by) {
            add(c, 0, by);
            if (seen) {
                marks.add(mark);
            }
            c.must(marks.size() <= 2000, 9);
        }

        private void add(Command c, int way, long by) {
            now[way] += by;
            c.must(in(now[way], Integer.MIN_VALUE, Integer.MAX_VALUE), 8);
        }

        private void move(Command c, int way, int plain, int firstKept) {
            int group = (c.code - plain + 1) / 5;
            int kept = firstKept + group - 1;
            if (group > 0 && c.numbered) {
                now[kept] = c.number;
            }
            add(c, way, group > 0 ? now[kept] : c.number);
        }
    }
}
