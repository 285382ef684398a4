/** Promise 14 (differ). */
final class DifferTest {
    private static final Checks T = new Checks();

    public static void main(String[] args) {
        numbers();
        sizes();
        pictures();
        failures();
        T.end();
    }

    private static void both(String call, Scriptorium x, int a, int b, int want) {
        T.due(call, x.differ(a, b), want);
        T.due(call + ", the other way", x.differ(b, a), want);
    }

    private static void numbers() {
        for (int script = 0; script < 6; script++) {
            Scriptorium x = new Scriptorium();
            Checks.bound(x, 0, script, 4, 1, 0, 1, 1);
            Checks.bound(x, 5, script, 4, 1, 0, 1, 1);
            both("script " + script + ", the same signs", x, 0, 5, Checks.NONE);
            x.write(5, 3, 0, 0);
            both("script " + script + ", the last differs", x, 0, 5, 3);
            x.write(5, 1, 0, 1);
            both("script " + script + ", the second differs", x, 0, 5, 1);
            x.write(5, 0, 0, 0);
            both("script " + script + ", the first differs", x, 0, 5, 0);
            T.due("a book and itself", x.differ(0, 0), Checks.NONE);
            x.share(0, 1);
            both("a shared book", x, 0, 1, Checks.NONE);
        }
        Scriptorium x = new Scriptorium();
        Checks.bound(x, 0, 4, 1, 1L << 40);
        x.bind(1, 4, 1);
        both("years that differ in high bits alone", x, 0, 1, 0);
        T.due("differ is no passage", x.count(0), 0);
    }

    private static void sizes() {
        Scriptorium x = new Scriptorium();
        Checks.bound(x, 0, 3, 3, 1, 2, 3);
        Checks.bound(x, 1, 3, 5, 1, 2, 3, 4, 5);
        x.bind(2, 3, 0);
        x.bind(3, 3, 0);
        x.bind(4, 3, 40);
        both("behind the end of the shorter", x, 0, 1, 3);
        both("a book of no signs", x, 0, 2, 0);
        both("two books of no signs", x, 2, 3, Checks.NONE);
        both("bare against written", x, 0, 4, 0);
        x.write(1, 1, 0, 9);
        both("ahead of the end of the shorter", x, 0, 1, 1);
    }

    private static void pictures() {
        Scriptorium x = new Scriptorium();
        x.bind(0, 6, 3);
        x.bind(1, 7, 3);
        x.bind(2, 8, 3);
        both("bare pictures and beasts", x, 0, 1, Checks.NONE);
        both("bare beasts and plants", x, 1, 2, Checks.NONE);
        x.write(0, 1, 1, 5);
        both("a beast and a bare place", x, 0, 1, 1);
        x.write(1, 1, 1, 5);
        both("the same beast", x, 0, 1, Checks.NONE);
        x.write(1, 1, 1, 6);
        both("beasts of unlike numbers", x, 0, 1, 1);
        x.write(2, 1, 2, 5);
        both("unlike sorts of one number", x, 0, 2, 1);
        x.write(0, 1, 0, 5);
        x.write(1, 1, 0, 6);
        both("bare again, whatever v was", x, 0, 1, Checks.NONE);
        x.write(0, 0, 1, 0);
        both("a beast of number 0 and a bare place", x, 0, 1, 0);
        x.write(1, 0, 1, 1L << 32);
        both("numbers of the lowest 32 bits", x, 0, 1, Checks.NONE);
    }

    private static void failures() {
        Scriptorium x = new Scriptorium();
        x.stone(1);
        x.bind(2, 3, 1);
        x.bind(3, 4, 1);
        for (int d : Checks.NO_DESKS) {
            both("no such desk " + d, x, d, 0, Checks.REFUSED);
            both("no such desk " + d, x, d, 2, Checks.REFUSED);
        }
        T.due("nothing and nothing", x.differ(0, 0), Checks.EMPTY);
        both("nothing and a stone", x, 0, 1, Checks.EMPTY);
        both("nothing and a book", x, 0, 2, Checks.EMPTY);
        T.due("a stone and itself", x.differ(1, 1), Checks.UNLIKE);
        both("a stone and a book", x, 1, 2, Checks.UNLIKE);
        for (int a = 0; a < 9; a++) {
            for (int b = 0; b < 9; b++) {
                x.bind(4, a, 2);
                x.bind(5, b, 2);
                boolean isAlike = a == b || a >= 6 && b >= 6;
                T.due("scripts " + a + " and " + b, x.differ(4, 5), isAlike ? Checks.NONE : Checks.UNLIKE);
            }
        }
    }
}
