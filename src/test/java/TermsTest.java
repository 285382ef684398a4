/** 'Terms' of desks, books, scripts, scribes and what is refused; PassagesTest has what it says of passages. */
final class TermsTest {
    private static final Checks T = new Checks();

    public static void main(String[] args) {
        desks();
        sizes();
        marks();
        letters();
        notes();
        counts();
        years();
        lights();
        pictureScripts();
        zeroAtFirst();
        bareAtFirst();
        alike();
        severalDesks();
        scribes();
        ink();
        orders();
        refused();
        refusedChangesNothing();
        longestUse();
        T.end();
    }

    private static void desks() {
        T.sentence("Terms", "DESKS 0 to 5: on each lies a BOOK, a STONE, or nothing (EMPTY, at first).");
        Scriptorium x = new Scriptorium();
        for (int d = 0; d < 6; d++) {
            T.due("at first, book(" + d + ", 0)", x.book(d, 0), Checks.EMPTY);
        }
        for (int d = 0; d < 6; d++) {
            T.due("bind(" + d + ", 3, " + d + ")", x.bind(d, 3, d), 0);
        }
        for (int d = 0; d < 6; d++) {
            T.due("each has its own book, book(" + d + ", 1)", x.book(d, 1), d);
        }
        for (int d = 0; d < 6; d++) {
            T.due("stone(" + d + ")", x.stone(d), 0);
            T.due("book(" + d + ", 0) of a stone", x.book(d, 0), Checks.UNLIKE);
            T.due("clear(" + d + ")", x.clear(d), 0);
            T.due("book(" + d + ", 0) of nothing", x.book(d, 0), Checks.EMPTY);
        }
        T.due("bind(-1, 3, 1)", x.bind(-1, 3, 1), Checks.REFUSED);
        T.due("bind(6, 3, 1)", x.bind(6, 3, 1), Checks.REFUSED);
    }

    private static void sizes() {
        T.sentence("Terms", "A book is a row of 0 to 40 SIGNS, at PLACES from 0 on, all of one SCRIPT:");
        for (int script = 0; script < 9; script++) {
            for (int size : new int[] {0, 1, 2, 39, 40}) {
                Scriptorium x = new Scriptorium();
                String book = "script " + script + ", size " + size;
                T.due(book, x.bind(0, script, size), 0);
                T.dueSigns(book, x, 0, new long[size]);
                T.dueThrow(x, 0, -1, IndexOutOfBoundsException.class);
                T.dueThrow(x, 0, size, IndexOutOfBoundsException.class);
                T.due(book + ", write at -1", x.write(0, -1, 0, 1), Checks.BEYOND);
                T.due(book + ", write at the end", x.write(0, size, 0, 1), Checks.BEYOND);
            }
        }
    }

    /** The edges of a script stand as they are; one step over them comes out at the other edge. */
    private static void edges(int script, long least, long greatest) {
        Scriptorium x = new Scriptorium();
        Checks.bound(x, 0, script, 5, least, greatest, least - 1, greatest + 1, 0);
        T.dueSigns("least, greatest, and over them", x, 0, least, greatest, greatest, least, 0);
        x.bind(1, script, 5);
        T.due("they are copied", x.copy(0, 0, 0, 1, 0, 5), 5);
        T.dueSigns("the copy", x, 1, least, greatest, greatest, least, 0);
    }

    private static void marks() {
        T.sentence("Terms", "0 marks (numbers -128 to 127),");
        edges(0, -128, 127);
    }

    private static void letters() {
        T.sentence("Terms", "1 letters (0 to 65535),");
        edges(1, 0, 65535);
    }

    private static void notes() {
        T.sentence("Terms", "2 notes (-32768 to 32767),");
        edges(2, -32768, 32767);
    }

    private static void counts() {
        T.sentence("Terms", "3 counts (ints),");
        edges(3, Checks.MIN, Checks.MAX);
    }

    private static void years() {
        T.sentence("Terms", "4 years (longs),");
        edges(4, Long.MIN_VALUE, Long.MAX_VALUE);
    }

    private static void lights() {
        T.sentence("Terms", "5 lights (1 or 0),");
        edges(5, 0, 1);
    }

    private static void pictureScripts() {
        T.sentence("Terms", "6 pictures, 7 pictures of beasts alone, 8 pictures of plants alone.");
        int[][] answers = {{0, 0, 0}, {0, 0, Checks.STOPPED}, {0, Checks.STOPPED, 0}};
        for (int script = 6; script < 9; script++) {
            for (int sort = 0; sort < 3; sort++) {
                Scriptorium x = new Scriptorium();
                x.bind(0, script, 1);
                T.due("script " + script + ", sort " + sort, x.write(0, 0, sort, 1), answers[script - 6][sort]);
            }
        }
    }

    private static void zeroAtFirst() {
        T.sentence("Terms", "A sign of 0 to 5 is 0 at first;");
        for (int script = 0; script < 6; script++) {
            Scriptorium x = new Scriptorium();
            x.bind(0, script, 40);
            T.dueSigns("script " + script, x, 0, new long[40]);
            Checks.bound(x, 0, script, 2, 1, 1);
            x.bind(0, script, 2);
            T.dueSigns("script " + script + ", in place of a written book", x, 0, 0, 0);
        }
    }

    private static void bareAtFirst() {
        T.sentence("Terms", "where a picture stands a place is BARE at first, or has a BEAST or a PLANT, "
            + "each with a NUMBER (an int).");
        for (int script = 6; script < 9; script++) {
            Scriptorium x = new Scriptorium();
            x.bind(0, script, 40);
            T.dueSigns("script " + script, x, 0, new long[40]);
        }
        Scriptorium x = new Scriptorium();
        x.bind(0, 6, 4);
        x.write(0, 0, Checks.BEAST, Checks.MAX);
        x.write(0, 1, Checks.BEAST, Checks.MIN);
        x.write(0, 2, Checks.PLANT, Checks.MAX);
        x.write(0, 3, Checks.PLANT, Checks.MIN);
        T.dueSigns("the greatest and the least int", x, 0, 8589934589L, -8589934591L, 8589934590L, -8589934590L);
    }

    private static void alike() {
        T.sentence("Terms", "Scripts are ALIKE if they are one, or both are 6 to 8.");
        for (int one = 0; one < 9; one++) {
            for (int other = 0; other < 9; other++) {
                Scriptorium x = new Scriptorium();
                x.bind(0, one, 1);
                x.bind(1, other, 1);
                boolean isAlike = one == other || one >= 6 && other >= 6;
                String scripts = "scripts " + one + " and " + other;
                T.due(scripts + ", copy", x.copy(0, 0, 0, 1, 0, 1), isAlike ? 1 : Checks.UNLIKE);
                T.due(scripts + ", differ", x.differ(0, 1), isAlike ? Checks.NONE : Checks.UNLIKE);
            }
        }
    }

    private static void severalDesks() {
        T.sentence("Terms", "One book may lie on several desks: then what is written in it is seen on all of them.");
        Scriptorium x = new Scriptorium();
        x.bind(0, 3, 7);
        for (int d = 1; d < 6; d++) {
            x.share(d - 1, d);
        }
        for (int d = 0; d < 6; d++) {
            x.write(d, d, 0, 10 + d);
        }
        for (int d = 0; d < 6; d++) {
            T.dueSigns("written on each of six desks", x, d, 10, 11, 12, 13, 14, 15, 0);
        }
        x.copy(0, 2, 0, 4, 6, 1);
        for (int d = 0; d < 6; d++) {
            T.due("copied onto desk 4, seen on " + d, x.sign(d, 6), 10);
        }
        x.bind(3, 3, 7);
        x.write(0, 0, 0, 99);
        T.due("written on desk 0, seen on 5", x.sign(5, 0), 99);
        T.due("another book lies on desk 3", x.sign(3, 0), 0);
    }

    private static void scribes() {
        T.sentence("Terms", "SCRIBES 0 to 2,");
        Scriptorium x = new Scriptorium();
        for (int s = 0; s < 3; s++) {
            T.due("fill(" + s + ", " + s + ")", x.fill(s, s), 100 + s);
        }
        for (int s = 0; s < 3; s++) {
            T.due("each has its own ink, scribe(" + s + ", 0)", x.scribe(s, 0), 100 + s);
        }
        T.due("scribe(-1, 0)", x.scribe(-1, 0), Checks.REFUSED);
        T.due("scribe(3, 0)", x.scribe(3, 0), Checks.REFUSED);
    }

    private static void ink() {
        T.sentence("Terms", "each with INK (100 at first, 1000 at most),");
        for (int s = 0; s < 3; s++) {
            Scriptorium x = new Scriptorium();
            T.due("at first, scribe(" + s + ", 0)", x.scribe(s, 0), 100);
            T.due("fill(" + s + ", 899)", x.fill(s, 899), 999);
            T.due("fill(" + s + ", 1)", x.fill(s, 1), 1000);
            T.due("fill(" + s + ", 1) at the most", x.fill(s, 1), 1000);
            T.due("fill(" + s + ", 1000) at the most", x.fill(s, 1000), 1000);
            T.due("at most, scribe(" + s + ", 0)", x.scribe(s, 0), 1000);
        }
    }

    private static void orders() {
        T.sentence("Terms", "and ORDERS that wait, in their order (8 at most).");
        for (int s = 0; s < 3; s++) {
            Scriptorium x = new Scriptorium();
            Checks.bound(x, 0, 3, 8, 1, 2, 3, 4, 5, 6, 7, 8);
            x.bind(1, 3, 1);
            for (int k = 0; k < 8; k++) {
                T.due("order " + (k + 1) + " of scribe " + s, x.order(s, 0, k, 1, 0, 1), k + 1);
            }
            T.due("order 9 of scribe " + s, x.order(s, 0, 0, 1, 0, 1), Checks.REFUSED);
            T.due("scribe(" + s + ", 1)", x.scribe(s, 1), 8);
            for (int k = 0; k < 8; k++) {
                x.day();
                T.due("day " + k + " of scribe " + s, x.sign(1, 0), k + 1);
            }
        }
    }

    private static void refused() {
        T.sentence("Terms", "No such desk or scribe is REFUSED (-99);");
        Scriptorium x = new Scriptorium();
        x.bind(2, 3, 2);
        for (int d : Checks.NO_DESKS) {
            T.due("bind(" + d + ", 3, 2)", x.bind(d, 3, 2), -99);
            T.due("stone(" + d + ")", x.stone(d), -99);
            T.due("share(" + d + ", 2)", x.share(d, 2), -99);
            T.due("share(2, " + d + ")", x.share(2, d), -99);
            T.due("share(" + d + ", " + d + ")", x.share(d, d), -99);
            T.due("clear(" + d + ")", x.clear(d), -99);
            T.due("write(" + d + ", 0, 0, 1)", x.write(d, 0, 0, 1), -99);
            T.due("copy(0, " + d + ", 0, 2, 0, 1)", x.copy(0, d, 0, 2, 0, 1), -99);
            T.due("copy(0, 2, 0, " + d + ", 0, 1)", x.copy(0, 2, 0, d, 0, 1), -99);
            T.due("order(0, " + d + ", 0, 2, 0, 1)", x.order(0, d, 0, 2, 0, 1), -99);
            T.due("order(0, 2, 0, " + d + ", 0, 1)", x.order(0, 2, 0, d, 0, 1), -99);
            T.due("book(" + d + ", 0)", x.book(d, 0), -99);
            T.due("book(" + d + ", 1)", x.book(d, 1), -99);
            T.due("differ(" + d + ", 2)", x.differ(d, 2), -99);
            T.due("differ(2, " + d + ")", x.differ(2, d), -99);
        }
        for (int s : Checks.NO_SCRIBES) {
            T.due("copy(" + s + ", 2, 0, 2, 0, 1)", x.copy(s, 2, 0, 2, 0, 1), -99);
            T.due("order(" + s + ", 2, 0, 2, 0, 1)", x.order(s, 2, 0, 2, 0, 1), -99);
            T.due("fill(" + s + ", 1)", x.fill(s, 1), -99);
            for (int what = 0; what < 3; what++) {
                T.due("scribe(" + s + ", " + what + ")", x.scribe(s, what), -99);
            }
        }
    }

    private static void refusedChangesNothing() {
        T.sentence("Terms", "what is refused changes nothing.");
        Scriptorium x = new Scriptorium();
        house(x);
        refusedLayings(x);
        T.dueSame("refused layings", x, housed());
        x = new Scriptorium();
        house(x);
        refusedPassages(x);
        T.dueSame("refused passages and orders", x, housed());
        x = new Scriptorium();
        house(x);
        refusedQuestions(x);
        T.dueSame("refused fills and questions", x, housed());
    }

    private static Scriptorium housed() {
        Scriptorium y = new Scriptorium();
        house(y);
        return y;
    }

    /** Nothing, a stone, one book on two desks, pictures; a scribe with 8 orders, one with little ink. */
    private static void house(Scriptorium x) {
        Checks.drain(x, 1, 3);
        x.stone(1);
        Checks.bound(x, 2, 3, 3, 7, 8, 9);
        x.share(2, 3);
        x.bind(4, 6, 3);
        x.write(4, 0, Checks.BEAST, 4);
        x.write(4, 1, Checks.PLANT, 5);
        x.bind(5, 7, 3);
        for (int k = 0; k < 8; k++) {
            x.order(0, 2, k % 3, 3, (k + 1) % 3, 1);
        }
        x.order(1, 4, 0, 5, 0, 2);
        x.order(1, 2, 0, 3, 0, 3);
        x.copy(2, 2, 0, 2, 2, 1);
        x.copy(2, 4, 0, 5, 0, 3);
    }

    private static void refusedLayings(Scriptorium x) {
        for (int d : Checks.NO_DESKS) {
            T.due("bind, desk " + d, x.bind(d, 3, 3), Checks.REFUSED);
            T.due("stone, desk " + d, x.stone(d), Checks.REFUSED);
            T.due("share from " + d, x.share(d, 2), Checks.REFUSED);
            T.due("share to " + d, x.share(2, d), Checks.REFUSED);
            T.due("clear, desk " + d, x.clear(d), Checks.REFUSED);
            T.due("write, desk " + d, x.write(d, 0, 1, 1), Checks.REFUSED);
        }
        for (int desk = 0; desk < 6; desk++) {
            T.due("bind, script -1", x.bind(desk, -1, 3), Checks.REFUSED);
            T.due("bind, script 9", x.bind(desk, 9, 3), Checks.REFUSED);
            T.due("bind, size -1", x.bind(desk, 3, -1), Checks.REFUSED);
            T.due("bind, size 41", x.bind(desk, 3, 41), Checks.REFUSED);
        }
        for (int desk = 4; desk < 6; desk++) {
            T.due("write, sort -1", x.write(desk, 0, -1, 1), Checks.REFUSED);
            T.due("write, sort 3", x.write(desk, 0, 3, 1), Checks.REFUSED);
        }
    }

    private static void refusedPassages(Scriptorium x) {
        for (int d : Checks.NO_DESKS) {
            T.due("copy from " + d, x.copy(2, d, 0, 2, 0, 1), Checks.REFUSED);
            T.due("copy to " + d, x.copy(2, 2, 0, d, 0, 1), Checks.REFUSED);
            T.due("order from " + d, x.order(2, d, 0, 2, 0, 1), Checks.REFUSED);
            T.due("order to " + d, x.order(2, 2, 0, d, 0, 1), Checks.REFUSED);
        }
        for (int s : Checks.NO_SCRIBES) {
            T.due("copy by " + s, x.copy(s, 2, 0, 2, 1, 1), Checks.REFUSED);
            T.due("order of " + s, x.order(s, 2, 0, 2, 1, 1), Checks.REFUSED);
        }
        T.due("a ninth order", x.order(0, 2, 0, 2, 1, 1), Checks.REFUSED);
        T.due("a ninth order once more", x.order(0, 4, 0, 5, 0, 1), Checks.REFUSED);
    }

    private static void refusedQuestions(Scriptorium x) {
        for (int s : Checks.NO_SCRIBES) {
            T.due("fill of " + s, x.fill(s, 5), Checks.REFUSED);
            T.due("scribe " + s, x.scribe(s, 0), Checks.REFUSED);
        }
        for (int odd : new int[] {-1, 1001, Checks.MIN, Checks.MAX}) {
            T.due("fill of " + odd, x.fill(1, odd), Checks.REFUSED);
            T.due("scribe, what " + odd, x.scribe(1, odd), Checks.REFUSED);
            T.due("book, what " + odd, x.book(2, odd), Checks.REFUSED);
            T.due("differ, desk " + odd, x.differ(2, odd), Checks.REFUSED);
            T.due("chronicle, k " + odd, x.chronicle(odd, 0), Checks.REFUSED);
            T.due("chronicle, what " + odd, x.chronicle(0, odd), Checks.REFUSED);
            T.due("count, what " + odd, x.count(odd), Checks.REFUSED);
        }
    }

    private static void longestUse() {
        T.sentence("What it is", "An object is used for at most 512 calls after it has been made;");
        Scriptorium binder = new Scriptorium();
        for (int call = 1; call < 512; call++) {
            T.due("call " + call + ", bind", binder.bind(call % 6, call % 9, call % 41), 0);
        }
        T.due("call 512, books bound", binder.count(7), 511);
        Scriptorium copier = new Scriptorium();
        copier.bind(0, 3, 1);
        for (int call = 2; call < 512; call++) {
            T.due("call " + call + ", copy", copier.copy(call % 3, 0, 0, 0, 0, 0), 0);
        }
        T.due("call 512, passages", copier.count(0), 510);
        Scriptorium keeper = new Scriptorium();
        for (int call = 1; call < 511; call += 2) {
            T.due("call " + call + ", order", keeper.order(1, 0, 0, 0, 0, 0), 1);
            T.due("call " + (call + 1) + ", day", keeper.day(), 1);
        }
        T.due("call 511, order", keeper.order(1, 0, 0, 0, 0, 0), 1);
        T.due("call 512, EMPTY ones", keeper.count(2), 255);
    }
}
