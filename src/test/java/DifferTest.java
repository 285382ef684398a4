/** Promise 14 (differ). */
final class DifferTest {
    private static final Checks T = new Checks();

    public static void main(String[] args) {
        firstPlace();
        pictures();
        sizes();
        none();
        failures();
        T.end();
    }

    private static void both(String call, Scriptorium x, int a, int b, int want) {
        T.due(call, x.differ(a, b), want);
        T.due(call + ", the other way", x.differ(b, a), want);
    }

    private static void firstPlace() {
        T.sentence("Promise 14", "The first place at which the books on two desks differ");
        for (int script = 0; script < 6; script++) {
            Scriptorium x = new Scriptorium();
            x.bind(0, script, 40);
            x.bind(5, script, 40);
            x.write(5, 39, 0, 1);
            both("script " + script + ", the last place", x, 0, 5, 39);
            x.write(5, 20, 0, 1);
            both("script " + script + ", a place between", x, 0, 5, 20);
            x.write(5, 0, 0, 1);
            both("script " + script + ", the first place", x, 0, 5, 0);
        }
        Scriptorium x = new Scriptorium();
        Checks.bound(x, 0, 4, 2, 0, 1L << 40);
        x.bind(1, 4, 2);
        both("years that differ in high bits alone", x, 0, 1, 1);
        Checks.bound(x, 2, 3, 3, 1, 2, 3);
        Checks.bound(x, 3, 3, 5, 1, 9, 3, 4, 5);
        both("ahead of the end of the shorter", x, 2, 3, 1);
        Checks.bound(x, 3, 3, 5, 1, 2, 9, 4, 5);
        both("at the last place of the shorter", x, 2, 3, 2);
        T.due("differ is no passage", x.count(0), 0);
        T.due("differ uses no ink", x.scribe(0, 0), 100);
    }

    private static void pictures() {
        T.sentence("Promise 14", "(pictures: unlike sorts or numbers);");
        Scriptorium x = new Scriptorium();
        x.bind(0, 6, 3);
        x.bind(1, 7, 3);
        x.bind(2, 8, 3);
        both("bare pictures and beasts", x, 0, 1, Checks.NONE);
        both("bare beasts and plants", x, 1, 2, Checks.NONE);
        x.write(0, 1, Checks.BEAST, 5);
        both("a beast and a bare place", x, 0, 1, 1);
        x.write(1, 1, Checks.BEAST, 5);
        both("the same beast", x, 0, 1, Checks.NONE);
        x.write(1, 1, Checks.BEAST, 6);
        both("beasts of unlike numbers", x, 0, 1, 1);
        x.write(2, 1, Checks.PLANT, 5);
        both("unlike sorts of one number", x, 0, 2, 1);
        x.write(0, 1, Checks.BARE, 5);
        x.write(1, 1, Checks.BARE, 6);
        both("bare again, whatever v was", x, 0, 1, Checks.NONE);
        x.write(0, 0, Checks.BEAST, 0);
        both("a beast of number 0 and a bare place", x, 0, 1, 0);
        x.write(2, 0, Checks.PLANT, 0);
        both("a beast and a plant of number 0", x, 0, 2, 0);
        x.write(1, 0, Checks.BEAST, 1L << 32);
        both("numbers of the lowest 32 bits", x, 0, 1, Checks.NONE);
        x.write(0, 0, Checks.BEAST, Checks.MIN);
        x.write(1, 0, Checks.BEAST, Checks.MAX);
        both("the least and the greatest number", x, 0, 1, 0);
    }

    private static void sizes() {
        T.sentence("Promise 14", "the size of the shorter one, if they differ behind its end alone;");
        for (int script = 0; script < 9; script++) {
            Scriptorium x = new Scriptorium();
            x.bind(0, script, 0);
            x.bind(1, script, 1);
            x.bind(2, script, 39);
            x.bind(3, script, 40);
            both("none and 1", x, 0, 1, 0);
            both("none and 40", x, 0, 3, 0);
            both("1 and 39", x, 1, 2, 1);
            both("39 and 40", x, 2, 3, 39);
        }
        Scriptorium x = new Scriptorium();
        Checks.bound(x, 0, 3, 3, 1, 2, 3);
        Checks.bound(x, 1, 3, 5, 1, 2, 3, 4, 5);
        both("written behind the end", x, 0, 1, 3);
    }

    private static void none() {
        T.sentence("Promise 14", "NONE (-60) if they don't.");
        for (int script = 0; script < 9; script++) {
            for (int size : new int[] {0, 1, 40}) {
                Scriptorium x = new Scriptorium();
                x.bind(0, script, size);
                x.bind(1, script, size);
                both("script " + script + ", size " + size, x, 0, 1, -60);
                for (int p = 0; p < size; p++) {
                    int sort = script == 8 ? Checks.PLANT : Checks.BEAST;
                    x.write(0, p, sort, p);
                    x.write(1, p, sort, p);
                }
                both("written, script " + script + ", size " + size, x, 0, 1, -60);
                T.due("a book and itself", x.differ(0, 0), -60);
                x.share(0, 5);
                both("a book on two desks", x, 0, 5, -60);
            }
        }
        Scriptorium x = new Scriptorium();
        x.bind(0, 7, 0);
        x.bind(1, 8, 0);
        both("beasts and plants, of no signs", x, 0, 1, -60);
    }

    private static void failures() {
        T.sentence("Promise 14", "Else the first of: REFUSED, EMPTY, UNLIKE (as of a passage).");
        Scriptorium x = new Scriptorium();
        x.stone(1);
        x.bind(2, 3, 1);
        x.bind(3, 4, 1);
        x.bind(4, 5, 0);
        x.bind(5, 6, 0);
        for (int d : Checks.NO_DESKS) {
            T.due("no such desks", x.differ(d, d), Checks.REFUSED);
            both("no such desk " + d + ", nothing", x, d, 0, Checks.REFUSED);
            both("no such desk " + d + ", a stone", x, d, 1, Checks.REFUSED);
            both("no such desk " + d + ", a book", x, d, 2, Checks.REFUSED);
        }
        T.due("nothing and itself", x.differ(0, 0), Checks.EMPTY);
        both("nothing and a stone", x, 0, 1, Checks.EMPTY);
        both("nothing and a book", x, 0, 2, Checks.EMPTY);
        T.due("a stone and itself", x.differ(1, 1), Checks.UNLIKE);
        both("a stone and a book", x, 1, 2, Checks.UNLIKE);
        both("unlike scripts, of the same signs", x, 2, 3, Checks.UNLIKE);
        both("unlike scripts, of no signs", x, 4, 5, Checks.UNLIKE);
        x.stone(0);
        both("two stones", x, 0, 1, Checks.UNLIKE);
    }
}
