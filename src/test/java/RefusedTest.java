import java.util.LinkedHashMap;
import java.util.Map;

/** A call that is refused changes nothing, in whatever state the object is. */
public final class RefusedTest {
    private static final int FAR = 1000000000;
    private static final Map<String, Twins.Steps> STATES = new LinkedHashMap<>();

    public static void main(String[] args) {
        states();
        for (Map.Entry<String, Twins.Steps> state : STATES.entrySet()) {
            String name = state.getKey() + ": ";
            wrongArguments(name, state.getValue());
            nothingThere(name, state.getValue());
            falseAnswers(name, state.getValue());
        }
        closedFiles();
        Expect.end();
    }

    private static void states() {
        STATES.put("new", x -> { });
        STATES.put("begun", RefusedTest::begun);
        STATES.put("marks on the first page", x -> {
            begun(x);
            marks(x);
        });
        STATES.put("shipped", RefusedTest::shipped);
        STATES.put("full", x -> {
            begun(x);
            for (int i = 0; i < 500; i++) {
                x.put(1, i % 256, i, i);
            }
        });
        STATES.put("a page that can't ship", x -> {
            shipped(x);
            x.width(1, 65, Integer.MAX_VALUE);
        });
        STATES.put("closed", x -> {
            shipped(x);
            x.close();
        });
        STATES.put("fed", x -> Files.feed(x, input()));
        STATES.put("read", RefusedTest::read);
        STATES.put("read, and a new file", x -> {
            read(x);
            shipped(x);
            x.copy();
        });
        STATES.put("read with a fault", x -> {
            read(x);
            x.keep(50);
            x.read();
        });
    }

    private static void begun(DviBytes x) {
        x.font(1, 10, 11, 12, 'a', 0, 1);
        x.font(2, 20, 21, 22, 'b', 0, 1);
        x.font(255, 30, 31, 32, 'c', 0, 1);
        x.width(1, 65, 500);
        x.width(255, 255, -5);
        x.count(0, 7);
        x.count(9, -7);
        x.begin(42, 5);
    }

    private static void marks(DviBytes x) {
        x.put(1, 65, 100, 200);
        x.put(255, 255, 600, 200);
        x.rule(600, 300, 5, 6);
    }

    private static void shipped(DviBytes x) {
        begun(x);
        marks(x);
        x.ship();
        x.put(2, 65, 1000, 2000);
        marks(x);
    }

    private static byte[] input() {
        return Files.begun().font(1).page(5).add(172, 65, 66, 140).page(6).add(137).four(7, 8).add(140).last().font(1)
                .veryLast(5).row();
    }

    private static void read(DviBytes x) {
        Files.feed(x, input());
        x.read();
    }

    private static void wrongArguments(String state, Twins.Steps before) {
        for (int n : new int[] {-1, 256}) {
            Twins.illegalArgument(state + "font " + n, before, x -> x.font(n, 1, 2, 3, 'z', 0, 1));
            Twins.illegalArgument(state + "width of font " + n, before, x -> x.width(n, 65, 9));
            Twins.illegalArgument(state + "width of character " + n, before, x -> x.width(1, n, 9));
            Twins.illegalArgument(state + "begin with c " + n, before, x -> x.begin(n, 1));
            Twins.illegalArgument(state + "begin with n " + n, before, x -> x.begin(1, n));
            Twins.illegalArgument(state + "put of font " + n, before, x -> x.put(n, 65, 0, 0));
            Twins.illegalArgument(state + "put of character " + n, before, x -> x.put(1, n, 0, 0));
        }
        for (int n : new int[] {0, 17}) {
            Twins.illegalArgument(state + "a name of " + n, before,
                    x -> x.font(2, 1, 2, 3, 0x6161616161616161L, 0x6161616161616161L, n));
        }
        for (int c : new int[] {32, 127}) {
            Twins.illegalArgument(state + "a name with " + c, before, x -> x.font(2, 1, 2, 3, 'a' | c << 8, 0, 2));
        }
        Twins.illegalArgument(state + "count -1", before, x -> x.count(-1, 9));
        Twins.illegalArgument(state + "count 10", before, x -> x.count(10, 9));
        Twins.illegalArgument(state + "put of a font not told", before, x -> x.put(3, 65, 0, 0));
        for (int n : new int[] {-FAR - 1, FAR + 1}) {
            Twins.illegalArgument(state + "put at x " + n, before, x -> x.put(1, 65, n, 0));
            Twins.illegalArgument(state + "put at y " + n, before, x -> x.put(1, 65, 0, n));
            Twins.illegalArgument(state + "a rule at x " + n, before, x -> x.rule(n, 0, 1, 1));
            Twins.illegalArgument(state + "a rule at y " + n, before, x -> x.rule(0, n, 1, 1));
        }
        for (int n : new int[] {0, FAR + 1}) {
            Twins.illegalArgument(state + "a rule of width " + n, before, x -> x.rule(0, 0, n, 1));
            Twins.illegalArgument(state + "a rule of height " + n, before, x -> x.rule(0, 0, 1, n));
        }
    }

    private static void nothingThere(String state, Twins.Steps before) {
        Twins.outOfBounds(state + "out -1", before, x -> x.out(-1));
        Twins.outOfBounds(state + "out of size", before, x -> x.out(x.size()));
        Twins.outOfBounds(state + "about -1", before, x -> x.about(-1));
        Twins.outOfBounds(state + "about 7", before, x -> x.about(7));
        Twins.outOfBounds(state + "mark -1", before, x -> x.mark(-1, 0));
        Twins.outOfBounds(state + "mark behind the last", before, x -> x.mark(x.about(0), 0));
        Twins.outOfBounds(state + "part -1 of a mark", before, x -> x.mark(0, -1));
        Twins.outOfBounds(state + "part 6 of a mark", before, x -> x.mark(0, 6));
        Twins.outOfBounds(state + "page -1", before, x -> x.page(-1, 0));
        Twins.outOfBounds(state + "page behind the last", before, x -> x.page(x.about(1), 0));
        Twins.outOfBounds(state + "count -1 of a page", before, x -> x.page(0, -1));
        Twins.outOfBounds(state + "count 10 of a page", before, x -> x.page(0, 10));
        Twins.outOfBounds(state + "told -1", before, x -> x.told(-1, 0));
        Twins.outOfBounds(state + "told behind the last", before, x -> x.told(x.about(2), 0));
        Twins.outOfBounds(state + "part -1 of a font", before, x -> x.told(0, -1));
    }

    private static void falseAnswers(String state, Twins.Steps before) {
        for (int n : new int[] {-1, 0, 9}) {
            Twins.answersFalse(state + "feed by " + n, before, x -> x.feed(-1, n));
        }
        Twins.answersFalse(state + "keep -1", before, x -> x.keep(-1));
        Twins.answersFalse(state + "keep one too many", before, x -> x.keep(Look.inputLength(x) + 1));
    }

    private static void closedFiles() {
        Twins.illegalState("ship", STATES.get("closed"), DviBytes::ship);
        Twins.illegalState("close", STATES.get("closed"), DviBytes::close);
        Twins.illegalState("font", STATES.get("closed"), x -> x.font(1, 1, 2, 3, 'z', 0, 1));
        Twins.illegalState("font told in an open file", STATES.get("shipped"), x -> x.font(1, 1, 2, 3, 'z', 0, 1));
        Twins.arithmetic("ship", STATES.get("a page that can't ship"), DviBytes::ship);
        Twins.unsupported("put", STATES.get("full"), x -> x.put(1, 65, 0, 0));
        Twins.unsupported("rule", STATES.get("full"), x -> x.rule(0, 0, 1, 1));
    }
}
