/** Promise 4: count. */
public final class CountTest {
    public static void main(String[] args) {
        eachCount();
        wrongOnes();
        anyValue();
        fromNowOn();
        Expect.end();
    }

    /** The ten counts of the page that begins at a place of what is written. */
    private static String countsAt(DviBytes x, int place) {
        return Files.written(x, place + 1, place + 41);
    }

    private static void eachCount() {
        for (int i = 0; i < 10; i++) {
            int k = i;
            DviBytes x = new DviBytes();
            Expect.done("count " + i, () -> x.count(k, 0x01020304));
            x.ship();
            String due = new Files().times(4 * i, 0).add(1, 2, 3, 4).times(36 - 4 * i, 0).text();
            Expect.same("count " + i + " is written", due, () -> countsAt(x, 15));
        }
    }

    private static void wrongOnes() {
        for (int i : new int[] {-1, 10, 256, Integer.MIN_VALUE, Integer.MAX_VALUE}) {
            Twins.illegalArgument("count " + i, x -> x.count(9, 4), x -> x.count(i, 7));
        }
    }

    private static void anyValue() {
        for (int v : new int[] {0, -1, 255, 256, Integer.MAX_VALUE, Integer.MIN_VALUE}) {
            DviBytes x = new DviBytes();
            Expect.done("a count of " + v, () -> x.count(0, v));
            x.ship();
            Expect.same("a count of " + v + " is written", new Files().four(v).times(36, 0).text(),
                    () -> countsAt(x, 15));
        }
    }

    private static void fromNowOn() {
        DviBytes x = new DviBytes();
        x.count(0, 1);
        x.count(0, 2);
        x.ship();
        String first = new Files().four(2).times(36, 0).text();
        x.count(0, 3);
        x.count(9, 4);
        Expect.same("a written page keeps its own", first, () -> countsAt(x, 15));
        x.ship();
        String second = new Files().four(3).times(32, 0).four(4).text();
        Expect.same("the next page", second, () -> countsAt(x, 63));
        x.ship();
        Expect.same("the page behind it", second, () -> countsAt(x, 111));
        x.close();
        x.begin(0, 0);
        x.ship();
        Expect.same("the next file", second, () -> countsAt(x, 15));
    }
}
