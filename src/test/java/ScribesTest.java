/** Promises 10 (fill) and 11 (scribe). */
final class ScribesTest {
    private static final Checks T = new Checks();
    private static final int[] NO_WHATS = {-1, 3, 4, Checks.MIN, Checks.MAX};

    public static void main(String[] args) {
        fill();
        fillRefused();
        ink();
        orders();
        signs();
        scribeRefused();
        T.end();
    }

    private static void fill() {
        T.sentence("Promise 10", "The scribe gets n INK more (0 to 1000; up to 1000 in all): how much it has.");
        Scriptorium x = new Scriptorium();
        T.due("fill(0, 0)", x.fill(0, 0), 100);
        T.due("fill(0, 1)", x.fill(0, 1), 101);
        T.due("fill(0, 898)", x.fill(0, 898), 999);
        T.due("fill(0, 1) to the most", x.fill(0, 1), 1000);
        T.due("fill(0, 0) at the most", x.fill(0, 0), 1000);
        T.due("fill(0, 1) at the most", x.fill(0, 1), 1000);
        T.due("fill(1, 1000) over the most", x.fill(1, 1000), 1000);
        T.due("scribe(1, 0)", x.scribe(1, 0), 1000);
        T.due("fill(2, 900) to the most", x.fill(2, 900), 1000);
        T.due("fill(2, 1000) at the most", x.fill(2, 1000), 1000);
        x.bind(0, 3, 40);
        x.copy(0, 0, 0, 0, 0, 40);
        T.due("filled again", x.fill(0, 39), 999);
        T.due("another's ink", x.scribe(1, 0), 1000);
        for (int n : new int[] {0, 1, 999, 1000}) {
            Scriptorium y = new Scriptorium();
            Checks.drain(y, 2, 0);
            T.due("fill(2, " + n + ") of no ink", y.fill(2, n), n);
            T.due("it has", y.scribe(2, 0), n);
        }
    }

    private static void fillRefused() {
        T.sentence("Promise 10", "REFUSED also for another n.");
        Scriptorium x = new Scriptorium();
        for (int n : new int[] {-1, 1001, -1000, Checks.MIN, Checks.MAX}) {
            for (int s = 0; s < 3; s++) {
                T.due("fill(" + s + ", " + n + ")", x.fill(s, n), Checks.REFUSED);
                T.due("ink after it", x.scribe(s, 0), 100);
            }
        }
        for (int s : Checks.NO_SCRIBES) {
            T.due("fill(" + s + ", 1)", x.fill(s, 1), Checks.REFUSED);
            T.due("fill(" + s + ", 1001)", x.fill(s, 1001), Checks.REFUSED);
        }
        x.fill(0, 1000);
        T.due("fill(0, 1001) at the most", x.fill(0, 1001), Checks.REFUSED);
        T.due("fill(0, -1) at the most", x.fill(0, -1), Checks.REFUSED);
    }

    private static void ink() {
        T.sentence("Promise 11", "The INK of a scribe (what 0),");
        for (int s = 0; s < 3; s++) {
            Scriptorium x = new Scriptorium();
            x.bind(0, 3, 40);
            T.due("at first", x.scribe(s, 0), 100);
            x.copy(s, 0, 0, 0, 5, 7);
            T.due("after 7 signs", x.scribe(s, 0), 93);
            x.fill(s, 50);
            T.due("filled", x.scribe(s, 0), 143);
            Checks.drain(x, s, 0);
            T.due("all used", x.scribe(s, 0), 0);
            T.due("another's", x.scribe((s + 1) % 3, 0), 100);
        }
    }

    private static void orders() {
        T.sentence("Promise 11", "how many of its orders wait (1),");
        for (int s = 0; s < 3; s++) {
            Scriptorium x = new Scriptorium();
            T.due("at first", x.scribe(s, 1), 0);
            for (int k = 1; k <= 9; k++) {
                x.order(s, 0, 0, 0, 0, 1);
                T.due("after order " + k, x.scribe(s, 1), Math.min(k, 8));
            }
            T.due("another's", x.scribe((s + 1) % 3, 1), 0);
            for (int k = 1; k <= 9; k++) {
                x.day();
                T.due("after day " + k, x.scribe(s, 1), Math.max(8 - k, 0));
            }
        }
    }

    private static void signs() {
        T.sentence("Promise 11", "signs that it copied ever (2).");
        Scriptorium x = new Scriptorium();
        T.due("at first", x.scribe(1, 2), 0);
        x.bind(0, 6, 40);
        x.bind(1, 7, 40);
        x.write(0, 4, Checks.PLANT, 1);
        x.copy(1, 0, 0, 1, 0, 3);
        T.due("of a whole passage", x.scribe(1, 2), 3);
        x.copy(1, 0, 0, 1, 0, 40);
        T.due("of a stopped passage", x.scribe(1, 2), 7);
        x.copy(1, 0, 0, 1, 0, 41);
        x.copy(1, 0, 0, 1, 0, 101);
        x.copy(1, 0, 0, 5, 0, 1);
        T.due("BEYOND, DRY and EMPTY have none", x.scribe(1, 2), 7);
        x.order(1, 0, 0, 1, 0, 2);
        x.day();
        T.due("of an order", x.scribe(1, 2), 9);
        T.due("another's", x.scribe(0, 2), 0);
        x.fill(1, 1000);
        for (int k = 0; k < 25; k++) {
            x.copy(1, 0, 0, 0, 0, 40);
        }
        x.fill(1, 1000);
        x.copy(1, 0, 0, 0, 0, 40);
        T.due("more than the most ink", x.scribe(1, 2), 1049);
    }

    private static void scribeRefused() {
        T.sentence("Promise 11", "REFUSED also for another what.");
        Scriptorium x = new Scriptorium();
        for (int what : NO_WHATS) {
            for (int s = 0; s < 3; s++) {
                T.due("scribe(" + s + ", " + what + ")", x.scribe(s, what), Checks.REFUSED);
            }
        }
        for (int s : Checks.NO_SCRIBES) {
            for (int what = -1; what < 4; what++) {
                T.due("scribe(" + s + ", " + what + ")", x.scribe(s, what), Checks.REFUSED);
            }
        }
    }
}
