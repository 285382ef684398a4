/** Promises 10 (fill) and 11 (scribe). */
final class ScribesTest {
    private static final Checks T = new Checks();

    public static void main(String[] args) {
        fill();
        fillRefused();
        scribe();
        T.end();
    }

    private static void fill() {
        Scriptorium x = new Scriptorium();
        T.due("fill(0, 0)", x.fill(0, 0), 100);
        T.due("fill(0, 1)", x.fill(0, 1), 101);
        T.due("fill(0, 898)", x.fill(0, 898), 999);
        T.due("fill(0, 1) to the most", x.fill(0, 1), 1000);
        T.due("fill(0, 1) at the most", x.fill(0, 1), 1000);
        T.due("fill(1, 1000)", x.fill(1, 1000), 1000);
        T.due("fill(2, 901)", x.fill(2, 901), 1000);
        x.bind(0, 3, 40);
        x.copy(0, 0, 0, 0, 0, 40);
        T.due("ink is used", x.scribe(0, 0), 960);
        T.due("and filled again", x.fill(0, 39), 999);
        T.due("another's ink", x.scribe(1, 0), 1000);
    }

    private static void fillRefused() {
        Scriptorium x = new Scriptorium();
        for (int n : new int[] {-1, 1001, Integer.MIN_VALUE, Integer.MAX_VALUE}) {
            T.due("fill(0, " + n + ")", x.fill(0, n), Checks.REFUSED);
        }
        for (int s : Checks.NO_SCRIBES) {
            T.due("fill(" + s + ", 1)", x.fill(s, 1), Checks.REFUSED);
        }
        for (int s = 0; s < 3; s++) {
            T.due("ink after refused fills", x.scribe(s, 0), 100);
        }
    }

    private static void scribe() {
        Scriptorium x = new Scriptorium();
        x.bind(0, 3, 40);
        x.fill(1, 50);
        x.copy(1, 0, 0, 0, 5, 7);
        x.copy(1, 0, 0, 0, 5, 4);
        x.order(1, 0, 0, 0, 0, 1);
        x.order(1, 0, 0, 0, 0, 1);
        T.due("scribe(1, 0)", x.scribe(1, 0), 139);
        T.due("scribe(1, 1)", x.scribe(1, 1), 2);
        T.due("scribe(1, 2)", x.scribe(1, 2), 11);
        T.due("scribe(0, 2)", x.scribe(0, 2), 0);
        for (int what : new int[] {-1, 3, 4, Integer.MIN_VALUE, Integer.MAX_VALUE}) {
            T.due("scribe(1, " + what + ")", x.scribe(1, what), Checks.REFUSED);
        }
        for (int s : Checks.NO_SCRIBES) {
            for (int what = 0; what < 3; what++) {
                T.due("scribe(" + s + ", " + what + ")", x.scribe(s, what), Checks.REFUSED);
            }
        }
    }
}
