/** Promises 8 (order) and 9 (day). */
final class OrdersTest {
    private static final Checks T = new Checks();

    public static void main(String[] args) {
        order();
        orderRefused();
        day();
        waitsNoMore();
        dryWaits();
        howMany();
        T.end();
    }

    private static void order() {
        T.sentence("Promise 8", "Such a passage is an ORDER of the scribe, behind the others: how many wait then.");
        Scriptorium x = new Scriptorium();
        Checks.bound(x, 0, 3, 2, 1, 2);
        for (int k = 1; k <= 8; k++) {
            T.due("order " + k, x.order(1, 0, 0, 0, 1, 1), k);
            T.due("orders that wait", x.scribe(1, 1), k);
        }
        T.due("another scribe's order", x.order(2, 0, 0, 0, 1, 1), 1);
        T.due("a third scribe's orders", x.scribe(0, 1), 0);
        T.dueSigns("nothing is copied yet", x, 0, 1, 2);
        T.due("no passage yet", x.count(0), 0);
        T.due("no ink used yet", x.scribe(1, 0), 100);
        ordersOfAnyPassage();
        behindTheOthers();
    }

    private static void ordersOfAnyPassage() {
        Scriptorium x = new Scriptorium();
        x.stone(1);
        x.bind(2, 3, 1);
        T.due("of what is EMPTY", x.order(0, 0, 0, 0, 0, 1), 1);
        T.due("of what is UNLIKE", x.order(0, 1, 0, 2, 0, 1), 2);
        T.due("of what is BEYOND", x.order(0, 2, -1, 2, -1, -1), 3);
        T.due("of the least numbers", x.order(0, 2, Checks.MIN, 2, Checks.MIN, Checks.MIN), 4);
        T.due("of the greatest numbers", x.order(0, 2, Checks.MAX, 2, Checks.MAX, Checks.MAX), 5);
        T.due("of more than the ink", x.order(0, 2, 0, 2, 0, 101), 6);
        T.due("of no signs", x.order(0, 2, 0, 2, 0, 0), 7);
    }

    private static void behindTheOthers() {
        Scriptorium x = new Scriptorium();
        Checks.bound(x, 0, 3, 8, 1, 2, 3, 4, 5, 6, 7, 8);
        x.bind(1, 3, 1);
        x.order(0, 0, 2, 1, 0, 1);
        x.order(0, 0, 3, 1, 0, 1);
        x.day();
        T.due("one came between the days", x.order(0, 0, 4, 1, 0, 1), 2);
        x.day();
        T.due("the older order first", x.sign(1, 0), 4);
        x.day();
        T.due("then the newer one", x.sign(1, 0), 5);
        // More orders than fit at once: the row of orders goes round.
        for (int k = 0; k < 30; k++) {
            x.order(0, 0, k % 8, 1, 0, 1);
            if (k >= 7) {
                x.day();
                T.due("order " + (k - 7) + " of 30", x.sign(1, 0), (k - 7) % 8 + 1);
            }
        }
    }

    private static void orderRefused() {
        T.sentence("Promise 8", "REFUSED also if 8 wait.");
        for (int s = 0; s < 3; s++) {
            Scriptorium x = new Scriptorium();
            for (int k = 1; k <= 8; k++) {
                T.due("order " + k + " of scribe " + s, x.order(s, 0, 0, 0, 0, 0), k);
            }
            T.due("a ninth", x.order(s, 0, 0, 0, 0, 0), Checks.REFUSED);
            T.due("a ninth again", x.order(s, 0, 0, 0, 0, 0), Checks.REFUSED);
            T.due("8 wait", x.scribe(s, 1), 8);
            T.due("another scribe has room", x.order((s + 1) % 3, 0, 0, 0, 0, 0), 1);
            x.day();
            T.due("there is room for one again", x.order(s, 0, 0, 0, 0, 0), 8);
            T.due("and not for two", x.order(s, 0, 0, 0, 0, 0), Checks.REFUSED);
        }
        eightThatWaitForInk();
        Scriptorium x = new Scriptorium();
        for (int s : Checks.NO_SCRIBES) {
            T.due("order(" + s + ", 0, 0, 1, 0, 1)", x.order(s, 0, 0, 1, 0, 1), Checks.REFUSED);
        }
        for (int d : Checks.NO_DESKS) {
            T.due("order(0, " + d + ", 0, 0, 0, 1)", x.order(0, d, 0, 0, 0, 1), Checks.REFUSED);
            T.due("order(0, 0, 0, " + d + ", 0, 1)", x.order(0, 0, 0, d, 0, 1), Checks.REFUSED);
        }
        T.due("none waits", x.scribe(0, 1) + x.scribe(1, 1) + x.scribe(2, 1), 0);
    }

    private static void eightThatWaitForInk() {
        Scriptorium x = new Scriptorium();
        for (int k = 1; k <= 8; k++) {
            x.order(0, 0, 0, 0, 0, 101);
        }
        T.due("a dry day", x.day(), 0);
        T.due("a ninth behind 8 dry ones", x.order(0, 0, 0, 0, 0, 0), Checks.REFUSED);
        T.due("8 wait", x.scribe(0, 1), 8);
    }

    private static void day() {
        T.sentence("Promise 9", "A DAY: each scribe, by number, does its first order, if it has one:");
        Scriptorium x = new Scriptorium();
        T.due("no orders at all", x.day(), 0);
        Checks.bound(x, 0, 3, 4, 9);
        x.order(2, 0, 2, 0, 3, 1);
        x.order(0, 0, 0, 0, 1, 1);
        x.order(1, 0, 1, 0, 2, 1);
        T.due("day", x.day(), 3);
        T.dueSigns("0, then 1, then 2", x, 0, 9, 9, 9, 9);
        for (int k = 0; k < 3; k++) {
            T.due("chronicle(" + k + ", 0)", x.chronicle(k, 0), 2 - k);
            T.due("ink of " + k, x.scribe(k, 0), 99);
        }
        T.due("all were done", x.day(), 0);
        T.due("passages", x.count(0), 3);
        onlyTheFirst();
        onlyThatScribe();
        desksOfTheDay();
    }

    private static void onlyTheFirst() {
        Scriptorium x = new Scriptorium();
        Checks.bound(x, 0, 3, 8, 1, 2, 3, 4, 5, 6, 7, 8);
        x.bind(1, 3, 1);
        for (int k = 0; k < 8; k++) {
            x.order(0, 0, k, 1, 0, 1);
        }
        for (int k = 0; k < 8; k++) {
            T.due("day " + k, x.day(), 1);
            T.due("copied on day " + k, x.sign(1, 0), k + 1);
            T.due("orders that wait after day " + k, x.scribe(0, 1), 7 - k);
            T.due("ink after day " + k, x.scribe(0, 0), 99 - k);
            T.due("signs after day " + k, x.scribe(0, 2), k + 1);
        }
        T.due("a day without orders", x.day(), 0);
    }

    private static void onlyThatScribe() {
        for (int s = 0; s < 3; s++) {
            Scriptorium x = new Scriptorium();
            x.bind(0, 3, 4);
            x.order(s, 0, 0, 0, 1, 2);
            T.due("day", x.day(), 1);
            T.dueLatest("the only order", x, s, 0, 0, 2);
            for (int other = 0; other < 3; other++) {
                T.due("ink of " + other, x.scribe(other, 0), other == s ? 98 : 100);
            }
        }
    }

    private static void desksOfTheDay() {
        Scriptorium x = new Scriptorium();
        Checks.bound(x, 0, 3, 1, 7);
        x.bind(1, 3, 1);
        x.order(0, 0, 0, 1, 0, 1);
        x.order(0, 0, 0, 1, 0, 1);
        Checks.bound(x, 0, 5, 1, 1);
        x.bind(1, 5, 2);
        T.due("day", x.day(), 1);
        T.dueSigns("the books that lie there on the day", x, 1, 1, 0);
        x.clear(0);
        x.day();
        T.dueLatest("nothing lies there on the day", x, 0, 0, 1, Checks.EMPTY);
    }

    private static void waitsNoMore() {
        T.sentence("Promise 9", "it waits no more, whatever its answer;");
        Scriptorium x = new Scriptorium();
        x.stone(1);
        x.bind(2, 6, 2);
        x.bind(3, 7, 2);
        x.write(2, 1, Checks.PLANT, 5);
        x.order(0, 0, 0, 1, 0, 1);
        x.order(0, 1, 0, 2, 0, 1);
        x.order(0, 2, 0, 3, 1, 2);
        x.order(0, 2, 0, 3, 0, -1);
        x.order(0, 2, 1, 3, 0, 1);
        x.order(0, 2, 0, 3, 0, 2);
        x.order(0, 2, 0, 3, 0, 0);
        x.order(0, 2, 0, 3, 0, 1);
        int[] answers = {Checks.EMPTY, Checks.UNLIKE, Checks.BEYOND, Checks.BEYOND, -10, -11, 0, 1};
        for (int k = 0; k < answers.length; k++) {
            x.day();
            T.due("answer of day " + k, x.chronicle(0, 3), answers[k]);
            T.due("orders after day " + k, x.scribe(0, 1), 7 - k);
        }
        T.due("ink, of the stopped one too", x.scribe(0, 0), 98);
    }

    private static void dryWaits() {
        T.sentence("Promise 9", "but one that is DRY waits on.");
        Scriptorium x = new Scriptorium();
        Checks.drain(x, 1, 20);
        int passages = x.count(0);
        Checks.bound(x, 0, 3, 40, 3);
        x.order(1, 0, 0, 0, 1, 30);
        T.due("20 ink for 30 signs", x.day(), 0);
        T.due("it waits on", x.scribe(1, 1), 1);
        T.due("no passage", x.count(0), passages);
        T.due("no ink used", x.scribe(1, 0), 20);
        T.due("nothing copied", x.sign(0, 1), 0);
        x.fill(1, 9);
        T.due("29 ink for 30 signs", x.day(), 0);
        T.due("it waits on", x.scribe(1, 1), 1);
        x.fill(1, 1);
        T.due("30 ink for 30 signs", x.day(), 1);
        T.due("it waits no more", x.scribe(1, 1), 0);
        T.due("no ink is left", x.scribe(1, 0), 0);
        T.due("it was copied", x.sign(0, 1), 3);
        x.order(1, 0, 0, 0, 2, 0);
        T.due("no sign with no ink is not dry", x.day(), 1);
        dryHoldsUpTheOthers();
        neverEnoughInk();
    }

    private static void dryHoldsUpTheOthers() {
        Scriptorium x = new Scriptorium();
        x.bind(0, 3, 4);
        x.order(0, 0, 0, 0, 0, 101);
        x.order(0, 0, 0, 0, 0, 1);
        T.due("the first is dry", x.day(), 0);
        T.due("both wait", x.scribe(0, 1), 2);
        x.fill(0, 1);
        T.due("the first is beyond", x.day(), 1);
        T.due("its answer", x.chronicle(0, 3), Checks.BEYOND);
        T.due("the second is whole", x.day(), 1);
        T.due("its answer", x.chronicle(0, 3), 1);
        T.due("none waits", x.scribe(0, 1), 0);
    }

    private static void neverEnoughInk() {
        Scriptorium x = new Scriptorium();
        x.fill(2, 1000);
        x.order(2, 0, 0, 0, 0, 1001);
        for (int k = 0; k < 20; k++) {
            T.due("1001 signs, day " + k, x.day(), 0);
        }
        T.due("it waits on", x.scribe(2, 1), 1);
    }

    private static void howMany() {
        T.sentence("Promise 9", "How many there were that were not DRY.");
        for (int dry = 0; dry < 8; dry++) {
            for (int done = 0; done < 8; done++) {
                Scriptorium x = new Scriptorium();
                x.bind(0, 3, 1);
                int want = 0;
                for (int s = 0; s < 3; s++) {
                    boolean isDry = (dry >> s & 1) == 1;
                    boolean isDone = !isDry && (done >> s & 1) == 1;
                    if (isDry || isDone) {
                        x.order(s, 0, 0, 0, 0, isDry ? 101 : s);
                    }
                    want += isDone ? 1 : 0;
                }
                T.due("dry ones " + dry + ", others " + done, x.day(), want);
                T.due("passages", x.count(0), want);
            }
        }
    }
}
