/** Promises 8 (order) and 9 (day). */
final class OrdersTest {
    private static final Checks T = new Checks();

    public static void main(String[] args) {
        order();
        orderRefused();
        inTheirOrder();
        desksOfTheDay();
        scribesByNumber();
        dryWaits();
        dryHoldsUpTheOthers();
        anyAnswerEndsAnOrder();
        T.end();
    }

    private static void order() {
        Scriptorium x = new Scriptorium();
        Checks.bound(x, 0, 3, 2, 1, 2);
        for (int k = 1; k <= 8; k++) {
            T.due("order " + k, x.order(1, 0, 0, 0, 1, 1), k);
            T.due("orders that wait", x.scribe(1, 1), k);
        }
        T.due("a ninth order", x.order(1, 0, 0, 0, 1, 1), Checks.REFUSED);
        T.due("orders that wait", x.scribe(1, 1), 8);
        T.due("another scribe's order", x.order(2, 0, 0, 0, 1, 1), 1);
        T.due("a third scribe's orders", x.scribe(0, 1), 0);
        T.dueSigns("nothing is copied yet", x, 0, 1, 2);
        T.due("no passage yet", x.count(0), 0);
        T.due("no ink used yet", x.scribe(1, 0), 100);
        T.due("day", x.day(), 2);
        T.due("there is room again", x.order(1, 0, 0, 0, 1, 1), 8);
    }

    private static void orderRefused() {
        Scriptorium x = new Scriptorium();
        for (int s : Checks.NO_SCRIBES) {
            T.due("order(" + s + ", 0, 0, 1, 0, 1)", x.order(s, 0, 0, 1, 0, 1), Checks.REFUSED);
        }
        for (int d : Checks.NO_DESKS) {
            T.due("order(0, " + d + ", 0, 0, 0, 1)", x.order(0, d, 0, 0, 0, 1), Checks.REFUSED);
            T.due("order(0, 0, 0, " + d + ", 0, 1)", x.order(0, 0, 0, d, 0, 1), Checks.REFUSED);
        }
        T.due("none waits", x.scribe(0, 1) + x.scribe(1, 1) + x.scribe(2, 1), 0);
        T.due("an order of what can't be copied", x.order(0, 0, -1, 1, -1, -1), 1);
        T.due("an order of more than the ink", x.order(0, 0, 0, 1, 0, 5000), 2);
    }

    private static void inTheirOrder() {
        Scriptorium x = new Scriptorium();
        Checks.bound(x, 0, 3, 8, 1, 2, 3, 4, 5, 6, 7, 8);
        x.bind(1, 3, 1);
        for (int k = 0; k < 8; k++) {
            x.order(0, 0, k, 1, 0, 1);
        }
        for (int k = 0; k < 8; k++) {
            T.due("day " + k, x.day(), 1);
            T.due("copied on day " + k, x.sign(1, 0), k + 1);
            T.due("orders that wait after day " + k, x.scribe(0, 1), 7 - k);
            T.due("ink after day " + k, x.scribe(0, 0), 99 - k);
            T.due("signs after day " + k, x.scribe(0, 2), k + 1);
        }
        T.due("a day without orders", x.day(), 0);
        T.due("passages", x.count(0), 8);
        // Orders that come between the days stand behind those that wait.
        x.order(0, 0, 2, 1, 0, 1);
        x.order(0, 0, 3, 1, 0, 1);
        x.day();
        x.order(0, 0, 4, 1, 0, 1);
        x.day();
        T.due("the older order first", x.sign(1, 0), 4);
        x.day();
        T.due("then the newer one", x.sign(1, 0), 5);
    }

    private static void desksOfTheDay() {
        Scriptorium x = new Scriptorium();
        Checks.bound(x, 0, 3, 1, 7);
        x.bind(1, 3, 1);
        x.order(0, 0, 0, 1, 0, 1);
        Checks.bound(x, 0, 5, 1, 1);
        x.bind(1, 5, 2);
        T.due("day", x.day(), 1);
        T.dueSigns("the books that lie there on the day", x, 1, 1, 0);
    }

    private static void scribesByNumber() {
        Scriptorium x = new Scriptorium();
        Checks.bound(x, 0, 3, 4, 9);
        x.order(2, 0, 2, 0, 3, 1);
        x.order(0, 0, 0, 0, 1, 1);
        x.order(1, 0, 1, 0, 2, 1);
        T.due("day", x.day(), 3);
        T.dueSigns("0, then 1, then 2", x, 0, 9, 9, 9, 9);
        for (int k = 0; k < 3; k++) {
            T.due("told of scribe", x.chronicle(k, 0), 2 - k);
            T.due("desk a", x.chronicle(k, 1), 0);
        }
        T.due("whole ones", x.count(1), 3);
    }

    private static void dryWaits() {
        Scriptorium x = new Scriptorium();
        Checks.bound(x, 0, 3, 40, 3);
        x.copy(1, 0, 0, 0, 0, 40);
        x.copy(1, 0, 0, 0, 0, 40);
        T.due("order", x.order(1, 0, 0, 0, 1, 30), 1);
        T.due("a dry day", x.day(), 0);
        T.due("it waits on", x.scribe(1, 1), 1);
        T.due("no passage", x.count(0), 2);
        T.due("another's order, 1 not dry", x.order(2, 0, 0, 0, 39, 1), 1);
        T.due("a day of one dry, one not", x.day(), 1);
        T.due("it waits on", x.scribe(1, 1), 1);
        x.fill(1, 9);
        T.due("29 ink for 30 signs", x.day(), 0);
        x.fill(1, 1);
        T.due("30 ink for 30 signs", x.day(), 1);
        T.due("it waits no more", x.scribe(1, 1), 0);
        T.due("no ink is left", x.scribe(1, 0), 0);
        T.due("it was copied", x.sign(0, 1), 3);
    }

    private static void dryHoldsUpTheOthers() {
        Scriptorium x = new Scriptorium();
        x.bind(0, 3, 4);
        x.order(0, 0, 0, 0, 0, 101);
        x.order(0, 0, 0, 0, 0, 1);
        T.due("the first is dry", x.day(), 0);
        T.due("both wait", x.scribe(0, 1), 2);
        x.fill(0, 1);
        T.due("the first is beyond", x.day(), 1);
        T.due("its answer", x.chronicle(0, 3), Checks.BEYOND);
        T.due("the second is whole", x.day(), 1);
        T.due("its answer", x.chronicle(0, 3), 1);
        T.due("none waits", x.scribe(0, 1), 0);
    }

    private static void anyAnswerEndsAnOrder() {
        Scriptorium x = new Scriptorium();
        x.stone(1);
        x.bind(2, 6, 2);
        x.bind(3, 7, 2);
        x.write(2, 1, 2, 5);
        x.order(0, 0, 0, 1, 0, 1);
        x.order(0, 1, 0, 2, 0, 1);
        x.order(0, 2, 0, 3, 1, 2);
        x.order(0, 2, 0, 3, 0, 2);
        x.order(0, 2, 0, 3, 0, 0);
        int[] answers = {Checks.EMPTY, Checks.UNLIKE, Checks.BEYOND, -11, 0};
        for (int k = 0; k < answers.length; k++) {
            T.due("day " + k, x.day(), 1);
            T.due("answer of day " + k, x.chronicle(0, 3), answers[k]);
            T.due("orders after day " + k, x.scribe(0, 1), 4 - k);
        }
        T.due("ink of the stopped one", x.scribe(0, 0), 99);
    }
}
