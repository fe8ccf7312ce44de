/** Promise 8: the moves of a page, as they are WRITTEN. */
public final class MovesTest {
    private static final String RULE = "137 0 0 0 1 0 0 0 1";

    public static void main(String[] args) {
        remembered();
        awaited();
        neverZero();
        eachWayItsOwn();
        eachPageAnew();
        nothingOfTheFormerPage();
        lengthsOfNumbers();
        behindWidths();
        manyMoves();
        Expect.end();
    }

    /** Rules at the sums of these moves right. */
    private static String right(int... moves) {
        return written(true, moves);
    }

    private static String down(int... moves) {
        return written(false, moves);
    }

    private static String written(boolean along, int... moves) {
        DviBytes x = new DviBytes();
        int at = 0;
        for (int by : moves) {
            at += by;
            x.rule(along ? at : 0, along ? 0 : at, 1, 1);
        }
        x.ship();
        return Files.marksOf(x).replace(RULE, "#");
    }

    /** The same right and down, but for the codes: w is 147, 148 .. and y 161, 162 .. */
    private static void both(String what, String due, int... moves) {
        Expect.same(what + ", right", due.replace("P", "143").replace("W0", "147").replace("W", "148")
                .replace("X0", "152").replace("X", "153"), () -> right(moves));
        Expect.same(what + ", down", due.replace("P", "157").replace("W0", "161").replace("W", "162")
                .replace("X0", "166").replace("X", "167"), () -> down(moves));
    }

    private static void remembered() {
        both("once", "P 9 #", 9);
        both("twice", "W 9 # W0 #", 9, 9);
        both("three times", "W 9 # W0 # W0 #", 9, 9, 9);
        both("what comes once is not remembered", "P 9 # P 8 # W 7 # W0 # W0 #", 9, 8, 7, 7, 7);
        both("the last of a page comes no more", "W 9 # W0 # P 8 #", 9, 9, 8);
        both("w is kept though it is not awaited", "W 9 # W0 # P 5 # P 4 #", 9, 9, 5, 4);
        both("backwards is another move", "P 9 # P 247 #", 9, -9);
        both("backwards again", "W 255 # W0 # P 1 #", -1, -1, 1);
        both("between them nothing", "W 9 # # W0 # #", 9, 0, 9, 0);
    }

    private static void awaited() {
        both("not awaited behind its last", "W 9 # W0 # W 8 # W0 #", 9, 9, 8, 8);
        both("w awaited", "W 9 # X 8 # X0 # W0 #", 9, 8, 8, 9);
        both("both awaited, plainly", "W 9 # X 8 # P 7 # W0 # X0 # P 7 #", 9, 8, 7, 9, 8, 7);
        both("both awaited, plainly twice", "W 9 # X 8 # P 7 # P 7 # W0 # X0 #", 9, 8, 7, 7, 9, 8);
        both("w free again", "W 9 # X 8 # P 7 # W0 # W 7 # X0 # W0 #", 9, 8, 7, 9, 7, 8, 7);
        both("x free again", "W 9 # X 8 # P 7 # X0 # X 7 # W0 # X0 #", 9, 8, 7, 8, 7, 9, 7);
        both("both free again: w first", "W 9 # X 8 # W0 # X0 # W 7 # W0 # W 6 # W0 #", 9, 8, 9, 8, 7, 7, 6, 6);
        both("x stays while w changes", "W 9 # X 8 # W0 # W 7 # W0 # X0 #", 9, 8, 9, 7, 7, 8);
        both("awaited by the very last", "W 9 # X 8 # P 7 # P 7 # P 7 # X0 # W0 #", 9, 8, 7, 7, 7, 8, 9);
        both("a move of now awaits nothing", "W 9 # W0 # W 5 # W0 #", 9, 9, 5, 5);
    }

    /** A mark at the place where it is needs no move, and a w of 0 is never awaited. */
    private static void neverZero() {
        both("no move", "# #", 0, 0);
        both("many", "# # # #", 0, 0, 0, 0);
        both("before a move", "# # W 9 # # # W0 #", 0, 0, 9, 0, 0, 9);
    }

    private static void eachWayItsOwn() {
        DviBytes x = new DviBytes();
        int[] moves = {9, 8, 7, 9, 7, 8, 7, 0, -300};
        int at = 0;
        for (int by : moves) {
            at += by;
            x.rule(at, at, 1, 1);
        }
        x.ship();
        Expect.same("each way has its own two, down comes first", "162 9 148 9 # 167 8 153 8 # 157 7 143 7 #"
                + " 161 147 # 162 7 148 7 # 166 152 # 161 147 # # 158 254 212 144 254 212 #",
                () -> Files.marksOf(x).replace(RULE, "#"));
        DviBytes y = new DviBytes();
        y.rule(9, 0, 1, 1);
        y.rule(9, 9, 1, 1);
        y.ship();
        Expect.same("a move down is none right", "143 9 # 157 9 #", () -> Files.marksOf(y).replace(RULE, "#"));
    }

    private static void eachPageAnew() {
        DviBytes x = new DviBytes();
        for (int i = 0; i < 2; i++) {
            x.rule(9, 9, 1, 1);
            x.rule(18, 18, 1, 1);
            x.ship();
        }
        String page = "141 162 9 148 9 # 161 147 # 142 140";
        Expect.same("the first page", page, () -> Files.written(x, 60, 87).replace(RULE, "#"));
        Expect.same("the second page", page, () -> Files.written(x, 87 + 45, x.size()).replace(RULE, "#"));
        DviBytes y = new DviBytes();
        y.rule(9, 9, 1, 1);
        y.ship();
        y.rule(9, 9, 1, 1);
        y.ship();
        Expect.same("what comes on the next page does not count", "157 9 143 9 #",
                () -> Files.written(y, 61, 74).replace(RULE, "#"));
    }

    /** What was remembered on a page, or moved there, is nothing to the next: its moves are written as on a first. */
    private static void nothingOfTheFormerPage() {
        int[] former = {9, 8, 7, 6, 9, 8, 7, 6, 5, 4};
        int[][] next = {{9}, {8}, {7}, {6}, {0, 8}, {0, 0, 7}, {1, 8}, {1, 2, 7}, {1, 2, 3, 6}, {8, 9}, {8, 8, 9, 9},
            {1, 2, 1, 2, 8, 8}, {4}, {1, 2, 3, 1, 2, 3, 1, 2, 3, 4}};
        for (int[] moves : next) {
            DviBytes x = new DviBytes();
            rules(x, former);
            x.ship();
            int size = x.size();
            rules(x, moves);
            x.ship();
            DviBytes first = new DviBytes();
            rules(first, moves);
            first.ship();
            Expect.same("behind another page: " + java.util.Arrays.toString(moves), Files.marksOf(first),
                    () -> Files.written(x, size + 46, x.size() - 2));
        }
    }

    private static void rules(DviBytes x, int[] moves) {
        int at = 0;
        for (int by : moves) {
            at += by;
            x.rule(at, at, 1, 1);
        }
    }

    /** The last number of each length, and the first of the next, in all six kinds of moves. */
    private static void lengthsOfNumbers() {
        int[][] last = {{127, -128}, {32767, -32768}, {8388607, -8388608}, {999999000, -999999000}};
        int[][] first = {{1, -1}, {128, -129}, {32768, -32769}, {8388608, -8388609}};
        for (int i = 0; i < 4; i++) {
            for (int k = 0; k < 2; k++) {
                length(i + 1, first[i][k]);
                length(i + 1, last[i][k]);
            }
        }
    }

    private static void length(int bytes, int by) {
        StringBuilder number = new StringBuilder();
        for (int i = bytes - 1; i >= 0; i--) {
            number.append(' ').append(by >> (8 * i) & 255);
        }
        int more = bytes - 1;
        Expect.same("right by " + by, 143 + more + "" + number + " #", () -> right(by));
        Expect.same("w of " + by, 148 + more + "" + number + " # 143 3 # 147 #", () -> right(by, 3 - by, by).replace(
                plain(143, 3 - by), "143 3"));
        Expect.same("x of " + by, "148 2 # " + (153 + more) + number + " # 144 0 200 # 152 # 147 #",
                () -> right(2, by, 200 - by, by, 2).replace(plain(143, 200 - by), "144 0 200"));
        Expect.same("down by " + by, 157 + more + "" + number + " #", () -> down(by));
        Expect.same("y of " + by, 162 + more + "" + number + " # 157 3 # 161 #", () -> down(by, 3 - by, by).replace(
                plain(157, 3 - by), "157 3"));
        Expect.same("z of " + by, "162 2 # " + (167 + more) + number + " # 158 0 200 # 166 # 161 #",
                () -> down(2, by, 200 - by, by, 2).replace(plain(157, 200 - by), "158 0 200"));
    }

    /** A plain move back, so that no place goes too far; its form is tested by moves of its own. */
    private static String plain(int code, int by) {
        int bytes = java.math.BigInteger.valueOf(by).toByteArray().length;
        StringBuilder text = new StringBuilder().append(code + bytes - 1);
        for (int i = bytes - 1; i >= 0; i--) {
            text.append(' ').append(by >> (8 * i) & 255);
        }
        return text.toString();
    }

    /** A character's width has moved h already. */
    private static void behindWidths() {
        DviBytes x = new DviBytes();
        x.font(0, 7, 8, 9, 'a', 0, 1);
        x.width(0, 1, 10);
        x.width(0, 2, -10);
        x.put(0, 1, 0, 0);
        x.put(0, 1, 10, 0);
        x.put(0, 1, 23, 0);
        x.put(0, 2, 36, 0);
        x.put(0, 2, 26, 0);
        x.rule(10, 0, 1, 1);
        x.ship();
        Expect.same("moves behind widths", new Files().font(0, 7, 8, 9, "", "a").add(171, 1, 1, 148, 3, 1, 147, 2, 2)
                .add(143, 250).text() + " " + RULE, () -> Files.marksOf(x));
        DviBytes y = new DviBytes();
        y.font(0, 7, 8, 9, 'a', 0, 1);
        y.width(0, 1, Integer.MAX_VALUE - 2);
        y.width(0, 2, Integer.MIN_VALUE + 2);
        y.put(0, 1, 0, 0);
        y.put(0, 2, -1, 0);
        y.put(0, 1, -2, 0);
        y.put(0, 1, -3, 0);
        y.ship();
        Expect.same("moves nearly as long as can be", new Files().font(0, 7, 8, 9, "", "a").add(171, 1, 151)
                .four(Integer.MIN_VALUE + 2).add(2, 146).four(Integer.MAX_VALUE - 2).add(1, 147, 1).text(),
                () -> Files.marksOf(y));
    }

    /** A full page: the first mark and the last one move alike, all others in their own way. */
    private static void manyMoves() {
        int[] moves = new int[500];
        StringBuilder due = new StringBuilder("W 1 #");
        for (int i = 0; i < 500; i++) {
            moves[i] = i == 0 || i == 499 ? 1 : i % 2 == 1 ? 5 : -5;
        }
        due.append(" X 5 #");
        for (int i = 2; i < 499; i++) {
            due.append(i % 2 == 1 ? " X0 #" : " P 251 #");
        }
        both("500 moves", due.append(" W0 #").toString(), moves);
    }
}
