/** Promises 1 (a new object), 2 (bind), 3 (stone), 4 (share), 5 (clear) and 13 (book). */
final class DesksTest {
    private static final Checks T = new Checks();

    public static void main(String[] args) {
        newObject();
        objectsAreApart();
        bind();
        bindRefused();
        stone();
        share();
        shareRefused();
        clear();
        book();
        T.end();
    }

    private static void newObject() {
        Scriptorium x = new Scriptorium();
        for (int d = 0; d < 6; d++) {
            T.due("new: book(" + d + ", 0)", x.book(d, 0), Checks.EMPTY);
            T.due("new: book(" + d + ", 1)", x.book(d, 1), Checks.EMPTY);
            T.dueThrow(x, d, 0, IllegalStateException.class);
        }
        for (int s = 0; s < 3; s++) {
            T.due("new: scribe(" + s + ", 0)", x.scribe(s, 0), 100);
            T.due("new: scribe(" + s + ", 1)", x.scribe(s, 1), 0);
            T.due("new: scribe(" + s + ", 2)", x.scribe(s, 2), 0);
        }
        for (int what = 0; what < 8; what++) {
            T.due("new: count(" + what + ")", x.count(what), 0);
        }
        for (int what = 0; what < 4; what++) {
            T.due("new: chronicle(0, " + what + ")", x.chronicle(0, what), Checks.REFUSED);
        }
        T.due("new: day()", x.day(), 0);
    }

    private static void objectsAreApart() {
        Scriptorium x = new Scriptorium();
        Scriptorium y = new Scriptorium();
        x.bind(0, 3, 4);
        x.copy(0, 0, 0, 0, 0, 4);
        x.order(1, 0, 0, 0, 0, 4);
        T.due("the other object's book", y.book(0, 0), Checks.EMPTY);
        T.due("the other object's ink", y.scribe(0, 0), 100);
        T.due("the other object's orders", y.scribe(1, 1), 0);
        T.due("the other object's passages", y.count(0), 0);
    }

    private static void bind() {
        for (int script = 0; script < 9; script++) {
            for (int size : new int[] {0, 1, 39, 40}) {
                Scriptorium x = new Scriptorium();
                String call = "bind(5, " + script + ", " + size + ")";
                T.due(call, x.bind(5, script, size), 0);
                T.due(call + ": script", x.book(5, 0), script);
                T.dueSigns(call, x, 5, new long[size]);
                T.due(call + ": another desk", x.book(4, 0), Checks.EMPTY);
                T.due(call + ": books bound", x.count(7), 1);
            }
        }
        Scriptorium x = new Scriptorium();
        Checks.bound(x, 0, 3, 2, 8, 9);
        T.due("bind in place of a book", x.bind(0, 3, 2), 0);
        T.dueSigns("a new book is new", x, 0, 0, 0);
        x.stone(1);
        T.due("bind in place of a stone", x.bind(1, 5, 3), 0);
        T.due("script in place of a stone", x.book(1, 0), 5);
        x.share(0, 2);
        x.bind(0, 4, 1);
        T.due("the other desk keeps the book", x.book(2, 0), 3);
        T.due("books bound", x.count(7), 4);
    }

    private static void bindRefused() {
        Scriptorium x = new Scriptorium();
        Checks.bound(x, 0, 3, 2, 8, 9);
        for (int d : Checks.NO_DESKS) {
            T.due("bind(" + d + ", 3, 2)", x.bind(d, 3, 2), Checks.REFUSED);
        }
        for (int script : new int[] {-1, 9, -2, Integer.MIN_VALUE, Integer.MAX_VALUE}) {
            T.due("bind(0, " + script + ", 2)", x.bind(0, script, 2), Checks.REFUSED);
        }
        for (int size : new int[] {-1, 41, Integer.MIN_VALUE, Integer.MAX_VALUE}) {
            T.due("bind(0, 3, " + size + ")", x.bind(0, 3, size), Checks.REFUSED);
        }
        T.dueSigns("after refused binds", x, 0, 8, 9);
        T.due("books bound after refused binds", x.count(7), 1);
    }

    private static void stone() {
        Scriptorium x = new Scriptorium();
        T.due("stone(0)", x.stone(0), 0);
        T.due("stone(5)", x.stone(5), 0);
        T.due("book(0, 0) of a stone", x.book(0, 0), Checks.UNLIKE);
        T.due("book(5, 1) of a stone", x.book(5, 1), Checks.UNLIKE);
        T.due("beside a stone", x.book(1, 0), Checks.EMPTY);
        x.bind(1, 3, 4);
        T.due("stone in place of a book", x.stone(1), 0);
        T.due("book(1, 0) of that stone", x.book(1, 0), Checks.UNLIKE);
        T.due("a stone is no book bound", x.count(7), 1);
        for (int d : Checks.NO_DESKS) {
            T.due("stone(" + d + ")", x.stone(d), Checks.REFUSED);
        }
    }

    private static void share() {
        Scriptorium x = new Scriptorium();
        Checks.bound(x, 0, 3, 3, 1, 2, 3);
        x.bind(5, 0, 9);
        T.due("share(0, 5)", x.share(0, 5), 0);
        T.dueSigns("the shared book", x, 5, 1, 2, 3);
        x.write(5, 1, 0, 77);
        T.dueSigns("written on desk 5, seen on 0", x, 0, 1, 77, 3);
        x.write(0, 2, 0, 78);
        T.dueSigns("written on desk 0, seen on 5", x, 5, 1, 77, 78);
        T.due("share is no book bound", x.count(7), 2);
        T.due("share(0, 0)", x.share(0, 0), 0);
        T.dueSigns("shared with itself", x, 0, 1, 77, 78);
        x.stone(1);
        T.due("share a stone", x.share(1, 2), 0);
        T.due("a shared stone", x.book(2, 0), Checks.UNLIKE);
        x.clear(1);
        T.due("a shared stone stays", x.book(2, 0), Checks.UNLIKE);
        T.due("share nothing", x.share(4, 0), 0);
        T.due("nothing lies there", x.book(0, 0), Checks.EMPTY);
        T.dueSigns("the book stays on desk 5", x, 5, 1, 77, 78);
        T.due("share back", x.share(5, 3), 0);
        x.clear(5);
        T.dueSigns("the book stays on desk 3", x, 3, 1, 77, 78);
    }

    private static void shareRefused() {
        Scriptorium x = new Scriptorium();
        Checks.bound(x, 0, 3, 1, 5);
        for (int d : Checks.NO_DESKS) {
            T.due("share(" + d + ", 0)", x.share(d, 0), Checks.REFUSED);
            T.due("share(0, " + d + ")", x.share(0, d), Checks.REFUSED);
            T.due("share(" + d + ", " + d + ")", x.share(d, d), Checks.REFUSED);
        }
        T.dueSigns("after refused shares", x, 0, 5);
    }

    private static void clear() {
        Scriptorium x = new Scriptorium();
        T.due("clear of an empty desk", x.clear(0), 0);
        x.bind(0, 3, 4);
        x.share(0, 1);
        x.stone(5);
        T.due("clear(0)", x.clear(0), 0);
        T.due("clear(5)", x.clear(5), 0);
        T.due("book(0, 0) when cleared", x.book(0, 0), Checks.EMPTY);
        T.due("book(5, 0) when cleared", x.book(5, 0), Checks.EMPTY);
        T.due("the other desk keeps its book", x.book(1, 1), 4);
        for (int d : Checks.NO_DESKS) {
            T.due("clear(" + d + ")", x.clear(d), Checks.REFUSED);
        }
    }

    private static void book() {
        Scriptorium x = new Scriptorium();
        x.bind(0, 6, 7);
        x.stone(1);
        T.due("book(0, 0)", x.book(0, 0), 6);
        T.due("book(0, 1)", x.book(0, 1), 7);
        for (int what : new int[] {-1, 2, 3, Integer.MIN_VALUE, Integer.MAX_VALUE}) {
            for (int d = 0; d < 3; d++) {
                T.due("book(" + d + ", " + what + ")", x.book(d, what), Checks.REFUSED);
            }
        }
        for (int d : Checks.NO_DESKS) {
            T.due("book(" + d + ", 0)", x.book(d, 0), Checks.REFUSED);
            T.due("book(" + d + ", 1)", x.book(d, 1), Checks.REFUSED);
        }
    }
}
