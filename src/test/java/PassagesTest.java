/** Promise 7 (copy), and what 'Terms' says of passages and ink. */
final class PassagesTest {
    private static final Checks T = new Checks();

    public static void main(String[] args) {
        allScripts();
        oneBook();
        sharedBook();
        copiedNotLinked();
        stopped();
        stoppedAtOnce();
        bareEverywhere();
        alike();
        answersInTheirOrder();
        ends();
        dry();
        refused();
        T.end();
    }

    private static void allScripts() {
        for (int script = 0; script < 6; script++) {
            Scriptorium x = new Scriptorium();
            long top = script == 5 ? 1 : 100;
            Checks.bound(x, 0, script, 4, 1, 0, 1, top);
            x.bind(5, script, 6);
            String call = "script " + script + ", copy(2, 0, 0, 5, 2, 4)";
            T.due(call, x.copy(2, 0, 0, 5, 2, 4), 4);
            T.dueSigns(call, x, 5, 0, 0, 1, 0, 1, top);
            T.dueSigns(call, x, 0, 1, 0, 1, top);
            T.due(call + ": ink", x.scribe(2, 0), 96);
            T.due(call + ": signs", x.scribe(2, 2), 4);
            T.due(call + ": another's ink", x.scribe(0, 0), 100);
        }
        Scriptorium x = new Scriptorium();
        x.bind(0, 6, 3);
        x.write(0, 0, 1, -7);
        x.write(0, 2, 2, 9);
        x.bind(1, 6, 3);
        x.write(1, 1, 1, 1);
        T.due("pictures", x.copy(0, 0, 0, 1, 0, 3), 3);
        T.dueSigns("pictures", x, 1, -27, 0, 38);
    }

    private static void oneBook() {
        Scriptorium x = new Scriptorium();
        Checks.bound(x, 0, 4, 6, 1, 2, 3, 4, 5, 6);
        T.due("onward in one book", x.copy(0, 0, 0, 0, 1, 5), 5);
        T.dueSigns("onward in one book", x, 0, 1, 1, 2, 3, 4, 5);
        T.due("back in one book", x.copy(0, 0, 2, 0, 0, 4), 4);
        T.dueSigns("back in one book", x, 0, 2, 3, 4, 5, 4, 5);
        T.due("to its own place", x.copy(0, 0, 1, 0, 1, 3), 3);
        T.dueSigns("to its own place", x, 0, 2, 3, 4, 5, 4, 5);
        T.due("ink", x.scribe(0, 0), 88);
    }

    private static void sharedBook() {
        for (int script = 6; script < 9; script++) {
            int sort = script == 8 ? 2 : 1;
            Scriptorium x = new Scriptorium();
            x.bind(0, script, 4);
            x.write(0, 0, sort, 10);
            x.write(0, 1, sort, 11);
            x.share(0, 3);
            T.due("onward in a shared book", x.copy(1, 0, 0, 3, 1, 3), 3);
            T.dueSigns("onward in a shared book", x, 0, 40 + sort, 40 + sort, 44 + sort, 0);
            T.due("back in a shared book", x.copy(1, 3, 2, 0, 0, 2), 2);
            T.dueSigns("back in a shared book", x, 3, 44 + sort, 0, 44 + sort, 0);
        }
    }

    private static void copiedNotLinked() {
        Scriptorium x = new Scriptorium();
        x.bind(0, 6, 1);
        x.bind(1, 6, 1);
        x.write(0, 0, 1, 5);
        x.copy(0, 0, 0, 1, 0, 1);
        x.write(0, 0, 2, 6);
        T.dueSigns("a copy keeps its sign", x, 1, 21);
    }

    private static void stopped() {
        for (int script = 7; script < 9; script++) {
            int own = script == 7 ? 1 : 2;
            int alien = 3 - own;
            Scriptorium x = new Scriptorium();
            x.bind(0, 6, 6);
            x.write(0, 1, own, 1);
            x.write(0, 3, own, 3);
            x.write(0, 4, alien, 4);
            x.write(0, 5, own, 5);
            x.bind(1, script, 6);
            x.write(1, 0, own, 50);
            x.write(1, 3, own, 53);
            x.write(1, 5, own, 55);
            String call = "into script " + script;
            T.due(call, x.copy(0, 0, 1, 1, 0, 5), Checks.STOPPED - 3);
            T.dueSigns(call, x, 1, 4 + own, 0, 12 + own, 212 + own, 0, 220 + own);
            T.due(call + ": ink", x.scribe(0, 0), 97);
            T.due(call + ": signs", x.scribe(0, 2), 3);
            T.due(call + ": stopped", x.count(5), 1);
            T.due(call + ": whole", x.count(1), 0);
            T.due(call + ": signs copied", x.count(6), 3);
            T.due(call + ": told", x.chronicle(0, 3), -13);
            T.due(call + ", up to the alien", x.copy(0, 0, 0, 1, 0, 4), 4);
            T.due(call + ", behind the alien", x.copy(0, 0, 5, 1, 0, 1), 1);
        }
    }

    private static void stoppedAtOnce() {
        Scriptorium x = new Scriptorium();
        x.bind(0, 7, 40);
        x.bind(1, 8, 40);
        x.write(0, 0, 1, 1);
        x.write(1, 39, 2, 1);
        T.due("beasts to plants, at once", x.copy(0, 0, 0, 1, 0, 40), Checks.STOPPED);
        T.due("ink when nothing was copied", x.scribe(0, 0), 100);
        T.due("plants to beasts, at the last", x.copy(0, 1, 0, 0, 0, 40), -49);
        T.due("ink for 39", x.scribe(0, 0), 61);
        T.due("the first beast was written over", x.sign(0, 0), 0);
        T.due("no sign, no stop", x.copy(0, 1, 39, 0, 0, 0), 0);
    }

    private static void bareEverywhere() {
        for (int from = 6; from < 9; from++) {
            for (int to = 6; to < 9; to++) {
                Scriptorium x = new Scriptorium();
                x.bind(0, from, 2);
                x.bind(1, to, 2);
                x.write(1, 0, to == 8 ? 2 : 1, 3);
                String call = "bare places of script " + from + " into " + to;
                T.due(call, x.copy(0, 0, 0, 1, 0, 2), 2);
                T.dueSigns(call, x, 1, 0, 0);
            }
        }
    }

    private static void alike() {
        for (int from = 0; from < 9; from++) {
            for (int to = 0; to < 9; to++) {
                Scriptorium x = new Scriptorium();
                x.bind(0, from, 1);
                x.bind(1, to, 1);
                boolean isAlike = from == to || from >= 6 && to >= 6;
                T.due("script " + from + " into " + to, x.copy(0, 0, 0, 1, 0, 1), isAlike ? 1 : Checks.UNLIKE);
            }
        }
    }

    private static void answersInTheirOrder() {
        Scriptorium x = new Scriptorium();
        x.stone(1);
        x.bind(2, 3, 2);
        x.bind(3, 4, 2);
        x.bind(4, 7, 2);
        x.bind(5, 8, 2);
        x.write(4, 0, 1, 1);
        T.due("nothing and a stone", x.copy(0, 0, 0, 1, 0, 1), Checks.EMPTY);
        T.due("a stone and nothing", x.copy(0, 1, 0, 0, 0, 1), Checks.EMPTY);
        T.due("nothing, beyond", x.copy(0, 0, -1, 2, 9, 1), Checks.EMPTY);
        T.due("a stone, beyond", x.copy(0, 1, -1, 2, 9, 1), Checks.UNLIKE);
        T.due("a book and a stone", x.copy(0, 2, 0, 1, 0, 0), Checks.UNLIKE);
        T.due("unlike scripts, beyond", x.copy(0, 2, 9, 3, 9, 1), Checks.UNLIKE);
        T.due("beyond, and none may stand there", x.copy(0, 4, 0, 5, 1, 2), Checks.BEYOND);
        T.due("none may stand there", x.copy(0, 4, 0, 5, 0, 2), Checks.STOPPED);
        T.due("dry, ahead of nothing", x.copy(0, 0, 0, 0, 0, 101), Checks.DRY);
        T.due("dry, ahead of a stone", x.copy(0, 1, 0, 1, 0, 101), Checks.DRY);
        T.due("dry, ahead of beyond", x.copy(0, 2, -1, 2, 0, 101), Checks.DRY);
        T.due("refused, ahead of dry", x.copy(0, 6, 0, 2, 0, 101), Checks.REFUSED);
        T.due("passages", x.count(0), 8);
    }

    private static void ends() {
        int max = Integer.MAX_VALUE;
        int min = Integer.MIN_VALUE;
        int[][] beyond = {
            {-1, 0, 1}, {0, -1, 1}, {0, 0, -1}, {0, 0, 4}, {3, 0, 1}, {0, 5, 1}, {4, 0, 0}, {0, 6, 0},
            {2, 0, 2}, {0, 3, 3}, {-1, 0, 0}, {0, -1, 0}, {3, 5, -1}, {max, 0, 1}, {0, max, 1},
            {max, max, 100}, {min, 0, 3}, {0, min, 3}, {0, 0, min}, {min, min, min}, {max, max, min}
        };
        Scriptorium x = new Scriptorium();
        Checks.bound(x, 0, 3, 3, 1, 2, 3);
        x.bind(1, 3, 5);
        for (int[] p : beyond) {
            T.due("copy(0, 0, " + p[0] + ", 1, " + p[1] + ", " + p[2] + ")",
                x.copy(0, 0, p[0], 1, p[1], p[2]), Checks.BEYOND);
        }
        T.dueSigns("nothing was copied", x, 1, 0, 0, 0, 0, 0);
        T.due("no ink was used", x.scribe(0, 0), 100);
        T.due("no sign at the ends", x.copy(0, 0, 3, 1, 5, 0), 0);
        T.due("up to both ends", x.copy(0, 0, 0, 1, 2, 3), 3);
        T.dueSigns("up to both ends", x, 1, 0, 0, 1, 2, 3);
        x.bind(2, 3, 0);
        T.due("a book of no signs", x.copy(0, 2, 0, 2, 0, 0), 0);
        T.due("a sign of a book of none", x.copy(0, 2, 0, 1, 0, 1), Checks.BEYOND);
        x.bind(3, 3, 40);
        T.due("a whole long book", x.copy(0, 3, 0, 3, 0, 40), 40);
        T.due("one more than a whole long book", x.copy(0, 3, 0, 3, 0, 41), Checks.BEYOND);
    }

    private static void dry() {
        Scriptorium x = new Scriptorium();
        Checks.bound(x, 0, 3, 40, 5, 6, 7);
        x.bind(1, 3, 40);
        x.copy(0, 0, 3, 1, 3, 35);
        x.copy(0, 0, 3, 1, 3, 35);
        x.copy(0, 0, 3, 1, 3, 28);
        T.due("2 ink are left", x.scribe(0, 0), 2);
        T.due("3 signs with 2 ink", x.copy(0, 0, 0, 1, 0, 3), Checks.DRY);
        T.dueSigns("dry copies nothing", x, 1, new long[40]);
        T.due("dry is no passage", x.count(0), 3);
        T.due("dry is not told", x.chronicle(0, 3), 28);
        T.due("2 signs with 2 ink", x.copy(0, 0, 0, 1, 0, 2), 2);
        T.due("no ink is left", x.scribe(0, 0), 0);
        T.due("1 sign with no ink", x.copy(0, 0, 0, 1, 0, 1), Checks.DRY);
        T.due("no sign with no ink", x.copy(0, 0, 0, 1, 0, 0), 0);
        T.due("below 0 signs with no ink", x.copy(0, 0, 0, 1, 0, -1), Checks.BEYOND);
        T.due("another scribe has ink", x.copy(1, 0, 0, 1, 0, 1), 1);
        T.due("more than any ink", x.copy(1, 0, 0, 1, 0, Integer.MAX_VALUE), Checks.DRY);
        T.due("signs by scribe 0", x.scribe(0, 2), 100);
        T.due("signs by all", x.count(6), 101);
    }

    private static void refused() {
        Scriptorium x = new Scriptorium();
        Checks.bound(x, 0, 3, 1, 7);
        for (int s : Checks.NO_SCRIBES) {
            T.due("copy(" + s + ", 0, 0, 0, 0, 1)", x.copy(s, 0, 0, 0, 0, 1), Checks.REFUSED);
        }
        for (int d : Checks.NO_DESKS) {
            T.due("copy(0, " + d + ", 0, 0, 0, 1)", x.copy(0, d, 0, 0, 0, 1), Checks.REFUSED);
            T.due("copy(0, 0, 0, " + d + ", 0, 1)", x.copy(0, 0, 0, d, 0, 1), Checks.REFUSED);
        }
        T.due("refused is no passage", x.count(0), 0);
        T.due("refused is not told", x.chronicle(0, 0), Checks.REFUSED);
        T.due("refused uses no ink", x.scribe(0, 0), 100);
    }
}
