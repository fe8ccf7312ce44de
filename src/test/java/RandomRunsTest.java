import java.util.Random;

/** Runs of random calls and random, whole and spoilt files, always the same ones, on the class and on the model. */
public final class RandomRunsTest {
    private static final int CALLS = 400;
    private static final int[] EDGES = {0, 1, -1, 9, 10, 127, 128, -128, -129, 255, 256, 32767, 32768, -32768, -32769,
        8388607, 8388608, -8388608, -8388609, 1000000000, 1000000001, -1000000000, -1000000001, 2147483647,
        -2147483648};

    private final Random random;
    private final String name;
    private final DviBytes real = new DviBytes();
    private final Model model = new Model();

    private RandomRunsTest(String name, long seed) {
        this.name = name;
        random = new Random(seed);
    }

    public static void main(String[] args) {
        int runs = args.length > 0 ? Integer.parseInt(args[0]) : 300;
        for (int seed = 0; seed < runs && Expect.wrongMany() == 0; seed++) {
            new RandomRunsTest("calls, run " + seed, seed).calls();
            new RandomRunsTest("files, run " + seed, seed).files();
            new RandomRunsTest("spoilt, run " + seed, seed).spoilt();
        }
        Expect.end();
    }

    private void same(String call, Expect.Call onReal, Expect.Call onModel) {
        String due = Expect.answerOf(onModel);
        Expect.same(name + ": " + call, due, onReal);
    }

    private int below(int n) {
        return random.nextInt(n);
    }

    private int edge() {
        return EDGES[below(EDGES.length)];
    }

    private int mostly(int most) {
        return below(30) == 0 ? edge() : below(most);
    }

    private void calls() {
        for (int i = 0; i < CALLS; i++) {
            switch (below(24)) {
                case 0 -> font();
                case 1 -> width();
                case 2 -> count();
                case 3 -> begin();
                case 4, 5, 6 -> rule();
                case 7 -> ship();
                case 8 -> close();
                case 9 -> look();
                default -> put();
            }
        }
        ship();
        close();
        written();
        same("copy", real::copy, model::copy);
        readAll();
    }

    private void font() {
        int f = below(3) == 0 ? mostly(256) : mostly(4);
        int n = mostly(17);
        int check = edge();
        long name = below(20) == 0 ? random.nextLong() : 0x7e21686766656463L;
        long more = below(20) == 0 ? random.nextLong() : 0x706f6e6d6c6b6a69L + below(2);
        same("font " + f, () -> {
            real.font(f, check, 5, -5, name, more, n);
            return 0;
        }, () -> {
            model.font(f, check, 5, -5, name, more, n);
            return 0;
        });
    }

    private void width() {
        int f = mostly(4);
        int c = mostly(4);
        int w = below(10) == 0 ? edge() : below(40) - 10;
        same("width " + f + ", " + c + ", " + w, () -> {
            real.width(f, c, w);
            return 0;
        }, () -> {
            model.width(f, c, w);
            return 0;
        });
    }

    private void count() {
        int i = mostly(10);
        int v = edge();
        same("count " + i, () -> {
            real.count(i, v);
            return 0;
        }, () -> {
            model.count(i, v);
            return 0;
        });
    }

    private void begin() {
        if (below(4) != 0) {
            return;
        }
        int c = mostly(256);
        int n = mostly(256);
        same("begin " + c + ", " + n, () -> {
            real.begin(c, n);
            return 0;
        }, () -> {
            model.begin(c, n);
            return 0;
        });
    }

    private int place() {
        return below(60) == 0 ? edge() : below(6) * 10;
    }

    private void put() {
        int f = below(5) == 0 ? mostly(256) : mostly(4);
        int c = below(3) == 0 ? mostly(256) : mostly(4);
        int x = place();
        int y = place();
        same("put " + f + ", " + c + ", " + x + ", " + y, () -> real.put(f, c, x, y), () -> model.put(f, c, x, y));
    }

    private void rule() {
        int x = place();
        int y = place();
        int width = below(20) == 0 ? edge() : 1 + below(9);
        int height = below(20) == 0 ? edge() : 1 + below(9);
        same("rule", () -> real.rule(x, y, width, height), () -> model.rule(x, y, width, height));
    }

    private void ship() {
        same("ship", real::ship, model::ship);
        same("size behind ship", real::size, model::size);
    }

    private void close() {
        if (below(3) != 0) {
            return;
        }
        same("close", real::close, model::close);
    }

    private void written() {
        same("size", real::size, model::size);
        for (int i = -1; i <= model.size(); i++) {
            int k = i;
            same("out " + i, () -> real.out(k), () -> model.out(k));
        }
    }

    private void look() {
        int i = edge();
        int what = edge();
        same("out", () -> real.out(i), () -> model.out(i));
        same("mark", () -> real.mark(i, what), () -> model.mark(i, what));
        same("page", () -> real.page(i, what), () -> model.page(i, what));
        same("told", () -> real.told(i, what), () -> model.told(i, what));
        same("about", () -> real.about(what), () -> model.about(what));
        same("keep", () -> real.keep(i), () -> model.keep(i));
        same("feed", () -> real.feed(i * 77777777L, what), () -> model.feed(i * 77777777L, what));
    }

    private void feed(byte[] row) {
        real.keep(0);
        model.keep(0);
        for (int i = 0; i < row.length; i += 8) {
            int n = Math.min(8, row.length - i);
            long w = 0;
            for (int k = 0; k < n; k++) {
                w = w << 8 | row[i + k] & 255;
            }
            real.feed(w, n);
            model.feed(w, n);
        }
    }

    private void readAll() {
        same("read", real::read, model::read);
        for (int what = -1; what <= 7; what++) {
            int k = what;
            same("about " + what, () -> real.about(k), () -> model.about(k));
        }
        for (int i = -1; i <= model.about(0); i++) {
            for (int what = -1; what <= 6; what++) {
                int mark = i;
                int k = what;
                same("mark " + i + ", " + what, () -> real.mark(mark, k), () -> model.mark(mark, k));
            }
        }
        for (int i = -1; i <= model.about(1); i++) {
            for (int what = -1; what <= 10; what++) {
                int page = i;
                int k = what;
                same("page " + i + ", " + what, () -> real.page(page, k), () -> model.page(page, k));
            }
        }
        for (int i = -1; i <= model.about(2); i++) {
            for (int what = -1; what <= 12; what++) {
                int font = i;
                int k = what;
                same("told " + i + ", " + what, () -> real.told(font, k), () -> model.told(font, k));
            }
        }
    }

    /** A file by hand whose pages have commands of all kinds; mostly a right one. */
    private Files file() {
        Files f = new Files().first(below(3));
        int pages = below(4);
        for (int p = 0; p < pages; p++) {
            for (int i = below(3); i > 0; i--) {
                between(f);
            }
            f.page(edge()).font(1).add(172);
            int depth = 0;
            for (int i = below(60); i > 0; i--) {
                depth = inPage(f, depth);
            }
            f.times(depth, 142).add(140);
        }
        f.last();
        if (below(2) == 0 && pages > 0) {
            f.font(1);
        }
        f.times(below(2), 138).veryLast(4 + below(5));
        if (below(8) == 0) {
            behindTheEnd(f);
        }
        return f;
    }

    /** What should not stand behind 249: some code, and fewer or more bytes than it has behind it. */
    private void behindTheEnd(Files f) {
        f.add(below(256));
        for (int i = below(4) == 0 ? below(60) : below(6); i > 0; i--) {
            f.add(below(3) == 0 ? below(256) : below(4));
        }
    }

    private void between(Files f) {
        if (below(2) == 0) {
            f.add(138);
        } else {
            f.font(below(3), 7, 8, 9, below(2) == 0 ? "" : "a", below(9) == 0 ? "c" : "");
        }
    }

    private int inPage(Files f, int depth) {
        switch (below(9)) {
            case 0 -> f.add(below(128));
            case 1 -> numbered(f, below(2) == 0 ? 128 : 133);
            case 2 -> f.add(below(2) == 0 ? 132 : 137).four(below(4) == 0 ? edge() : below(50), below(9) - 2);
            case 3 -> numbered(f, new int[] {143, 148, 153, 157, 162, 167}[below(6)]);
            case 4 -> f.add(new int[] {147, 152, 161, 166}[below(4)]);
            case 5 -> {
                f.add(141);
                return depth + 1;
            }
            case 6 -> {
                if (depth > 0) {
                    f.add(142);
                    return depth - 1;
                }
            }
            case 7 -> f.font(1).add(new int[] {138, 172, 138, 172, 173}[below(5)]);
            default -> f.add(239, 3, below(256), below(256), below(256));
        }
        return depth;
    }

    private void numbered(Files f, int first) {
        int bytes = 1 + below(4);
        f.add(first + bytes - 1);
        boolean great = below(20) == 0;
        for (int i = 0; i < bytes; i++) {
            f.add(great || i == bytes - 1 ? below(256) : 0);
        }
    }

    private void files() {
        for (int i = 0; i < 10; i++) {
            width();
        }
        for (int i = 0; i < 20; i++) {
            feed(file().row());
            readAll();
        }
    }

    private void spoilt() {
        for (int i = 0; i < 30; i++) {
            byte[] row = file().row();
            for (int k = 1 + below(3); k > 0; k--) {
                int at = below(row.length);
                row[at] = (byte) (below(3) == 0 ? row[at] + 1 : below(3) == 0 ? 128 + below(128) : below(256));
            }
            feed(row);
            if (below(3) == 0) {
                int n = below(row.length + 1);
                same("keep", () -> real.keep(n), () -> model.keep(n));
            }
            readAll();
        }
    }
}
