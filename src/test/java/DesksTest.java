/** Promises 1 (a new object), 2 (bind), 3 (stone), 4 (share), 5 (clear) and 13 (book). */
final class DesksTest {
    private static final Checks T = new Checks();

    public static void main(String[] args) {
        newObject();
        bind();
        bindScripts();
        bindSizes();
        stone();
        share();
        clear();
        book();
        bookOfNone();
        bookRefused();
        T.end();
    }

    private static void newObject() {
        T.sentence("Promise 1", "All desks are EMPTY, no orders, nothing in the chronicle.");
        Scriptorium used = new Scriptorium();
        used.bind(0, 3, 4);
        used.copy(0, 0, 0, 0, 0, 4);
        used.order(1, 0, 0, 0, 0, 4);
        isNew(new Scriptorium());
        isNew(new Scriptorium());
        T.due("the used one is as it was", used.count(0), 1);
    }

    private static void isNew(Scriptorium x) {
        for (int d = 0; d < 6; d++) {
            T.due("book(" + d + ", 0)", x.book(d, 0), Checks.EMPTY);
            T.due("book(" + d + ", 1)", x.book(d, 1), Checks.EMPTY);
            T.dueThrow(x, d, 0, IllegalStateException.class);
        }
        for (int s = 0; s < 3; s++) {
            T.due("scribe(" + s + ", 0)", x.scribe(s, 0), 100);
            T.due("scribe(" + s + ", 1)", x.scribe(s, 1), 0);
            T.due("scribe(" + s + ", 2)", x.scribe(s, 2), 0);
        }
        for (int what = 0; what < 4; what++) {
            T.due("chronicle(0, " + what + ")", x.chronicle(0, what), Checks.REFUSED);
            T.due("chronicle(15, " + what + ")", x.chronicle(15, what), Checks.REFUSED);
        }
        for (int what = 0; what < 8; what++) {
            T.due("count(" + what + ")", x.count(what), 0);
        }
        T.due("day()", x.day(), 0);
        T.due("count(0) after a day without orders", x.count(0), 0);
    }

    private static void bind() {
        T.sentence("Promise 2", "A new book lies on a desk in place of what lay there: 0.");
        for (int d = 0; d < 6; d++) {
            Scriptorium x = new Scriptorium();
            T.due("in place of nothing", x.bind(d, 3, 2), 0);
            T.dueSigns("in place of nothing", x, d, 0, 0);
            x.write(d, 0, 0, 8);
            T.due("in place of a book of that kind", x.bind(d, 3, 2), 0);
            T.dueSigns("in place of a book of that kind", x, d, 0, 0);
            T.due("in place of a longer book", x.bind(d, 6, 0), 0);
            T.dueSigns("in place of a longer book", x, d);
            T.due("its script", x.book(d, 0), 6);
            x.stone(d);
            T.due("in place of a stone", x.bind(d, 0, 1), 0);
            T.dueSigns("in place of a stone", x, d, 0);
            T.due("another desk", x.book((d + 1) % 6, 0), Checks.EMPTY);
        }
        Scriptorium x = new Scriptorium();
        Checks.bound(x, 0, 3, 2, 8, 9);
        x.share(0, 5);
        T.due("in place of a shared book", x.bind(0, 4, 1), 0);
        x.write(0, 0, 0, 1);
        T.dueSigns("the other desk keeps the old book", x, 5, 8, 9);
        T.due("its script", x.book(5, 0), 3);
    }

    private static void bindScripts() {
        T.sentence("Promise 2", "REFUSED also for a script that is not 0 to 8,");
        for (int script = 0; script < 9; script++) {
            Scriptorium x = new Scriptorium();
            T.due("bind(0, " + script + ", 3)", x.bind(0, script, 3), 0);
            T.due("book(0, 0)", x.book(0, 0), script);
        }
        for (int script : new int[] {-1, 9, -2, 10, 256, Checks.MIN, Checks.MAX}) {
            Scriptorium x = new Scriptorium();
            Checks.bound(x, 0, 3, 2, 8, 9);
            T.due("bind(0, " + script + ", 2)", x.bind(0, script, 2), Checks.REFUSED);
            T.dueSigns("the book stays", x, 0, 8, 9);
            T.due("bind(1, " + script + ", 2)", x.bind(1, script, 2), Checks.REFUSED);
            T.due("the desk stays empty", x.book(1, 0), Checks.EMPTY);
            T.due("books bound", x.count(7), 1);
        }
    }

    private static void bindSizes() {
        T.sentence("Promise 2", "or a size that is not 0 to 40.");
        for (int size : new int[] {0, 1, 39, 40}) {
            Scriptorium x = new Scriptorium();
            T.due("bind(0, 3, " + size + ")", x.bind(0, 3, size), 0);
            T.due("book(0, 1)", x.book(0, 1), size);
        }
        for (int size : new int[] {-1, 41, -40, Checks.MIN, Checks.MAX}) {
            Scriptorium x = new Scriptorium();
            Checks.bound(x, 0, 3, 2, 8, 9);
            T.due("bind(0, 3, " + size + ")", x.bind(0, 3, size), Checks.REFUSED);
            T.dueSigns("the book stays", x, 0, 8, 9);
            T.due("bind(1, 3, " + size + ")", x.bind(1, 3, size), Checks.REFUSED);
            T.due("the desk stays empty", x.book(1, 0), Checks.EMPTY);
            T.due("books bound", x.count(7), 1);
        }
    }

    private static void stone() {
        T.sentence("Promise 3", "A stone lies on a desk in place of what lay there: 0.");
        for (int d = 0; d < 6; d++) {
            Scriptorium x = new Scriptorium();
            T.due("in place of nothing, stone(" + d + ")", x.stone(d), 0);
            T.due("book(" + d + ", 0)", x.book(d, 0), Checks.UNLIKE);
            T.due("in place of a stone, stone(" + d + ")", x.stone(d), 0);
            T.due("book(" + d + ", 1)", x.book(d, 1), Checks.UNLIKE);
            Checks.bound(x, d, 3, 1, 7);
            int other = (d + 1) % 6;
            x.share(d, other);
            T.due("in place of a book, stone(" + d + ")", x.stone(d), 0);
            T.due("book(" + d + ", 0)", x.book(d, 0), Checks.UNLIKE);
            T.dueSigns("the other desk keeps the book", x, other, 7);
        }
        Scriptorium x = new Scriptorium();
        for (int d : Checks.NO_DESKS) {
            T.due("stone(" + d + ")", x.stone(d), Checks.REFUSED);
        }
    }

    private static void share() {
        T.sentence("Promise 4", "What lies on desk a (the same book, if it is one, or nothing) lies on desk b, too, "
            + "in place of what lay there: 0.");
        Scriptorium x = new Scriptorium();
        Checks.bound(x, 0, 3, 3, 1, 2, 3);
        x.bind(5, 0, 9);
        T.due("a book in place of a book", x.share(0, 5), 0);
        T.dueSigns("the shared book", x, 5, 1, 2, 3);
        x.write(5, 1, 0, 77);
        T.dueSigns("written on b, seen on a", x, 0, 1, 77, 3);
        x.write(0, 2, 0, 78);
        T.dueSigns("written on a, seen on b", x, 5, 1, 77, 78);
        T.due("a book onto its own desk", x.share(0, 0), 0);
        T.dueSigns("a book onto its own desk", x, 0, 1, 77, 78);
        T.due("a book onto the desk where it lies too", x.share(5, 0), 0);
        T.dueSigns("a book onto the desk where it lies too", x, 0, 1, 77, 78);
        shareOfNone();
        shareIsOfTheBookNotTheDesk();
    }

    private static void shareOfNone() {
        Scriptorium x = new Scriptorium();
        x.bind(0, 3, 1);
        x.stone(1);
        T.due("a stone in place of nothing", x.share(1, 2), 0);
        T.due("book(2, 0)", x.book(2, 0), Checks.UNLIKE);
        T.due("nothing in place of a stone", x.share(3, 1), 0);
        T.due("book(1, 0)", x.book(1, 0), Checks.EMPTY);
        T.due("the other stone stays", x.book(2, 0), Checks.UNLIKE);
        T.due("nothing in place of a book", x.share(3, 0), 0);
        T.due("book(0, 0)", x.book(0, 0), Checks.EMPTY);
        T.due("nothing onto its own desk", x.share(4, 4), 0);
        T.due("book(4, 0)", x.book(4, 0), Checks.EMPTY);
    }

    private static void shareIsOfTheBookNotTheDesk() {
        Scriptorium x = new Scriptorium();
        Checks.bound(x, 0, 3, 1, 5);
        x.share(0, 1);
        x.share(1, 2);
        x.bind(0, 3, 1);
        T.dueSigns("a new book on a", x, 1, 5);
        x.clear(1);
        T.dueSigns("a cleared desk between", x, 2, 5);
        x.write(0, 0, 0, 6);
        T.dueSigns("the new book is another", x, 2, 5);
    }

    private static void clear() {
        T.sentence("Promise 5", "Nothing lies on a desk: 0.");
        for (int d = 0; d < 6; d++) {
            Scriptorium x = new Scriptorium();
            int other = (d + 1) % 6;
            T.due("clear of an empty desk", x.clear(d), 0);
            T.due("book(" + d + ", 0)", x.book(d, 0), Checks.EMPTY);
            x.stone(d);
            T.due("clear of a stone", x.clear(d), 0);
            T.due("book(" + d + ", 0)", x.book(d, 0), Checks.EMPTY);
            Checks.bound(x, d, 3, 1, 5);
            x.share(d, other);
            T.due("clear of a book", x.clear(d), 0);
            T.due("book(" + d + ", 0)", x.book(d, 0), Checks.EMPTY);
            T.dueSigns("the other desk keeps its book", x, other, 5);
        }
        Scriptorium x = new Scriptorium();
        for (int d : Checks.NO_DESKS) {
            T.due("clear(" + d + ")", x.clear(d), Checks.REFUSED);
        }
    }

    private static void book() {
        T.sentence("Promise 13", "Of what lies on a desk: the script (what 0), how many signs (1);");
        Scriptorium x = new Scriptorium();
        int[][] books = {{0, 0}, {8, 40}, {6, 7}, {5, 1}, {3, 39}, {1, 0}};
        for (int d = 0; d < 6; d++) {
            x.bind(d, books[d][0], books[d][1]);
        }
        for (int d = 0; d < 6; d++) {
            T.due("book(" + d + ", 0)", x.book(d, 0), books[d][0]);
            T.due("book(" + d + ", 1)", x.book(d, 1), books[d][1]);
        }
    }

    private static void bookOfNone() {
        T.sentence("Promise 13", "EMPTY, UNLIKE (a stone),");
        Scriptorium x = new Scriptorium();
        x.stone(5);
        for (int what = 0; what < 2; what++) {
            T.due("nothing, book(0, " + what + ")", x.book(0, what), -1);
            T.due("a stone, book(5, " + what + ")", x.book(5, what), -2);
        }
    }

    private static void bookRefused() {
        T.sentence("Promise 13", "REFUSED also for another what.");
        Scriptorium x = new Scriptorium();
        x.bind(0, 6, 7);
        x.stone(1);
        for (int what : new int[] {-1, 2, 3, Checks.MIN, Checks.MAX}) {
            for (int d = 0; d < 3; d++) {
                T.due("book(" + d + ", " + what + ")", x.book(d, what), Checks.REFUSED);
            }
        }
        for (int d : Checks.NO_DESKS) {
            T.due("book(" + d + ", 0)", x.book(d, 0), Checks.REFUSED);
            T.due("book(" + d + ", 1)", x.book(d, 1), Checks.REFUSED);
            T.due("book(" + d + ", 2)", x.book(d, 2), Checks.REFUSED);
        }
    }
}
