/** All that can be seen of an object, as one text. */
final class Look {
    private static final int[] FONTS = {0, 1, 2, 3, 64, 255};
    private static final int[] CHARACTERS = {0, 1, 2, 65, 66, 127, 128, 200, 255};

    private Look() {
    }

    /** What the face tells without a change. */
    static String at(DviBytes x) {
        return "written " + Files.text(Files.written(x)) + "\ninput " + inputLength(x) + "\n" + reading(x);
    }

    /** An input keeps all its bytes without a change, and no more than it has. */
    static int inputLength(DviBytes x) {
        int n = 70000;
        while (n > 0 && !x.keep(n)) {
            n--;
        }
        return n;
    }

    /** All that is told of what was read. */
    static String reading(DviBytes x) {
        StringBuilder text = new StringBuilder("about");
        for (int what = 0; what <= 6; what++) {
            text.append(' ').append(x.about(what));
        }
        text.append("\nmarks ").append(marks(x)).append("\npages");
        for (int i = 0; i < x.about(1); i++) {
            for (int k = 0; k < 10; k++) {
                text.append(' ').append(x.page(i, k));
            }
        }
        text.append("\ntold");
        for (int i = 0; i < x.about(2); i++) {
            text.append(" / ").append(font(x, i));
        }
        return text.append('\n').toString();
    }

    static String marks(DviBytes x) {
        StringBuilder text = new StringBuilder();
        for (int i = 0; i < x.about(0); i++) {
            text.append(i > 0 ? " / " : "").append(mark(x, i));
        }
        return text.toString();
    }

    static String mark(DviBytes x, int i) {
        StringBuilder text = new StringBuilder();
        for (int what = 0; what < 6; what++) {
            text.append(what > 0 ? " " : "").append(x.mark(i, what));
        }
        return text.toString();
    }

    /** A font's number, check, sizes, length of name, and the name's bytes with one behind them. */
    static String font(DviBytes x, int k) {
        StringBuilder text = new StringBuilder();
        for (int what = 0; what <= 5 + x.told(k, 4); what++) {
            text.append(what > 0 ? " " : "").append(x.told(k, what));
        }
        return text.toString();
    }

    /** What lies behind the face too: later calls bring it to light, and change the object. */
    static String through(DviBytes x) {
        StringBuilder text = new StringBuilder(at(x));
        text.append("read ").append(x.read()).append('\n').append(reading(x));
        text.append("widths ").append(widths(x)).append('\n');
        text.append("marks on the page ").append(Expect.answerOf(() -> x.rule(3, 4, 5, 6))).append('\n');
        text.append("ship ").append(shipped(x)).append('\n');
        text.append("close ").append(Expect.answerOf(x::close)).append('\n').append(at(x));
        return text.append(fonts(x)).toString();
    }

    /** Widths as they are read; the input and what was read are lost. */
    private static String widths(DviBytes x) {
        Files f = Files.inPage();
        for (int font : FONTS) {
            f.font(font);
            for (int c : CHARACTERS) {
                f.add(141, 235, font, 128, c, 133, c, 142);
            }
        }
        Files.feed(x, f.end().row());
        return x.read() + " " + marks(x);
    }

    /** A page that does not ship for its widths does so without them. */
    private static String shipped(DviBytes x) {
        String answer = Expect.answerOf(x::ship);
        if (!answer.equals("ArithmeticException")) {
            return answer;
        }
        for (int font : FONTS) {
            for (int c : CHARACTERS) {
                x.width(font, c, 0);
            }
        }
        return answer + ", without widths " + Expect.answerOf(x::ship);
    }

    private static String fonts(DviBytes x) {
        StringBuilder text = new StringBuilder("fonts");
        x.begin(1, 1);
        for (int f = 0; f < 256; f++) {
            int font = f;
            text.append(' ').append(Expect.answerOf(() -> x.put(font, 3, 0, 0)));
        }
        x.ship();
        x.close();
        return text.append('\n').append(Files.text(Files.written(x))).toString();
    }
}
