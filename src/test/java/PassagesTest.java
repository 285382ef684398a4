/** Promise 7 (copy), and what 'Terms' says of passages, ink and the chronicle. */
final class PassagesTest {
    private static final Checks T = new Checks();

    public static void main(String[] args) {
        passage();
        firstOfAnswers();
        empty();
        unlike();
        belowZero();
        behindTheEnd();
        noSigns();
        stopped();
        mayNotStand();
        bareEverywhere();
        whole();
        inkUsed();
        lessInk();
        dryAheadOfAll();
        intoTheChronicle();
        latestSixteen();
        copy();
        T.end();
    }

    private static void passage() {
        T.sentence("Terms", "A PASSAGE: n signs from place i on of the book on desk a are copied, as they are ahead of it, "
            + "to place j and on of the book on desk b (which may be the same book).");
        betweenBooks();
        withinOneBook();
        withinASharedBook();
        Scriptorium x = new Scriptorium();
        x.bind(0, 6, 1);
        x.bind(1, 6, 1);
        x.write(0, 0, Checks.BEAST, 5);
        x.copy(0, 0, 0, 1, 0, 1);
        x.write(0, 0, Checks.PLANT, 6);
        T.dueSigns("a copy keeps its sign", x, 1, 21);
    }

    private static void betweenBooks() {
        for (int script = 0; script < 6; script++) {
            Scriptorium x = new Scriptorium();
            long top = script == 5 ? 1 : 100;
            Checks.bound(x, 0, script, 4, 1, 0, 1, top);
            x.bind(5, script, 6);
            String call = "script " + script + ", copy(2, 0, 1, 5, 2, 3)";
            T.due(call, x.copy(2, 0, 1, 5, 2, 3), 3);
            T.dueSigns(call, x, 5, 0, 0, 0, 1, top, 0);
            T.dueSigns(call, x, 0, 1, 0, 1, top);
        }
        Scriptorium x = new Scriptorium();
        x.bind(0, 6, 3);
        x.write(0, 0, Checks.BEAST, -7);
        x.write(0, 2, Checks.PLANT, 9);
        x.bind(1, 6, 3);
        x.write(1, 1, Checks.BEAST, 1);
        T.due("pictures", x.copy(0, 0, 0, 1, 0, 3), 3);
        T.dueSigns("pictures", x, 1, -27, 0, 38);
    }

    private static void withinOneBook() {
        Scriptorium x = new Scriptorium();
        Checks.bound(x, 0, 4, 6, 1, 2, 3, 4, 5, 6);
        T.due("onward by one", x.copy(0, 0, 0, 0, 1, 5), 5);
        T.dueSigns("onward by one", x, 0, 1, 1, 2, 3, 4, 5);
        T.due("back by two", x.copy(0, 0, 2, 0, 0, 4), 4);
        T.dueSigns("back by two", x, 0, 2, 3, 4, 5, 4, 5);
        T.due("to its own place", x.copy(0, 0, 1, 0, 1, 3), 3);
        T.dueSigns("to its own place", x, 0, 2, 3, 4, 5, 4, 5);
        T.due("the whole book to itself", x.copy(0, 0, 0, 0, 0, 6), 6);
        T.dueSigns("the whole book to itself", x, 0, 2, 3, 4, 5, 4, 5);
        T.due("one half to the other", x.copy(0, 0, 0, 0, 3, 3), 3);
        T.dueSigns("one half to the other", x, 0, 2, 3, 4, 2, 3, 4);
    }

    private static void withinASharedBook() {
        for (int script = 6; script < 9; script++) {
            int sort = script == 8 ? Checks.PLANT : Checks.BEAST;
            Scriptorium x = new Scriptorium();
            x.bind(0, script, 4);
            x.write(0, 0, sort, 10);
            x.write(0, 1, sort, 11);
            x.share(0, 3);
            T.due("onward in a shared book", x.copy(1, 0, 0, 3, 1, 3), 3);
            T.dueSigns("onward in a shared book", x, 0, 40 + sort, 40 + sort, 44 + sort, 0);
            T.due("back in a shared book", x.copy(1, 3, 2, 0, 0, 2), 2);
            T.dueSigns("back in a shared book", x, 3, 44 + sort, 0, 44 + sort, 0);
        }
    }

    private static void firstOfAnswers() {
        T.sentence("Terms", "The first of these that is so is its ANSWER:");
        Scriptorium x = new Scriptorium();
        x.stone(1);
        x.bind(2, 3, 2);
        x.bind(3, 4, 2);
        x.bind(4, 7, 2);
        x.bind(5, 8, 2);
        x.write(4, 0, Checks.BEAST, 1);
        T.due("nothing and a stone", x.copy(0, 0, 0, 1, 0, 1), Checks.EMPTY);
        T.due("a stone and nothing", x.copy(0, 1, 0, 0, 0, 1), Checks.EMPTY);
        T.due("nothing, beyond", x.copy(0, 0, -1, 2, 9, 1), Checks.EMPTY);
        T.due("beyond, nothing", x.copy(0, 2, -1, 0, 9, 1), Checks.EMPTY);
        T.due("a stone, beyond", x.copy(0, 1, -1, 2, 9, 1), Checks.UNLIKE);
        T.due("beyond, a stone", x.copy(0, 2, -1, 1, 9, 1), Checks.UNLIKE);
        T.due("unlike scripts, beyond", x.copy(0, 2, 9, 3, 9, 1), Checks.UNLIKE);
        T.due("beyond b, and the first may not stand there", x.copy(0, 4, 0, 5, 1, 2), Checks.BEYOND);
        T.due("beyond a, and the first may not stand there", x.copy(0, 4, 0, 5, 0, 3), Checks.BEYOND);
        T.due("the first may not stand there", x.copy(0, 4, 0, 5, 0, 2), Checks.STOPPED);
    }

    private static void empty() {
        T.sentence("Terms", "EMPTY (-1): nothing lies on a, or on b.");
        Scriptorium x = new Scriptorium();
        x.bind(1, 3, 2);
        for (int n : new int[] {0, 1, 2, 100, -1, Checks.MIN}) {
            T.due("nothing on a, n " + n, x.copy(0, 0, 0, 1, 0, n), -1);
            T.due("nothing on b, n " + n, x.copy(0, 1, 0, 0, 0, n), -1);
            T.due("nothing on both, n " + n, x.copy(0, 0, 0, 5, 0, n), -1);
            T.due("a and b one empty desk, n " + n, x.copy(0, 0, 0, 0, 0, n), -1);
        }
        x.clear(1);
        T.due("a cleared desk", x.copy(0, 1, 0, 1, 0, 1), -1);
        T.due("no ink is used", x.scribe(0, 0), 100);
    }

    private static void unlike() {
        T.sentence("Terms", "UNLIKE (-2): on one of them lies a stone, or the scripts are not alike.");
        Scriptorium x = new Scriptorium();
        x.stone(0);
        x.stone(1);
        x.bind(2, 5, 2);
        x.bind(3, 6, 2);
        for (int n : new int[] {0, 1, 100, -1, Checks.MIN}) {
            T.due("a stone on a, n " + n, x.copy(0, 0, 0, 2, 0, n), -2);
            T.due("a stone on b, n " + n, x.copy(0, 3, 0, 0, 0, n), -2);
            T.due("two stones, n " + n, x.copy(0, 0, 0, 1, 0, n), -2);
            T.due("one stone, n " + n, x.copy(0, 0, 0, 0, 0, n), -2);
            T.due("lights and pictures, n " + n, x.copy(0, 2, 0, 3, 0, n), -2);
            T.due("pictures and lights, n " + n, x.copy(0, 3, 0, 2, 0, n), -2);
        }
        T.due("no ink is used", x.scribe(0, 0), 100);
    }

    private static void beyond(Scriptorium x, int[][] passages) {
        for (int[] p : passages) {
            T.due("copy(0, 0, " + p[0] + ", 1, " + p[1] + ", " + p[2] + ")", x.copy(0, 0, p[0], 1, p[1], p[2]), -3);
        }
        T.dueSigns("nothing was copied", x, 1, 0, 0, 0, 0, 0);
        T.due("no ink was used", x.scribe(0, 0), 100);
    }

    private static void belowZero() {
        T.sentence("Terms", "BEYOND (-3): i, j or n is below 0,");
        Scriptorium x = new Scriptorium();
        Checks.bound(x, 0, 3, 3, 1, 2, 3);
        x.bind(1, 3, 5);
        beyond(x, new int[][] {
            {-1, 0, 1}, {0, -1, 1}, {0, 0, -1}, {-1, 0, 0}, {0, -1, 0}, {-1, -1, -1}, {3, 5, -1}, {1, 1, -1},
            {Checks.MIN, 0, 3}, {0, Checks.MIN, 3}, {0, 0, Checks.MIN}, {Checks.MIN, Checks.MIN, Checks.MIN},
            {Checks.MAX, Checks.MAX, Checks.MIN}, {2, 2, Checks.MIN}
        });
        T.due("all of them 0", x.copy(0, 0, 0, 1, 0, 0), 0);
    }

    private static void behindTheEnd() {
        T.sentence("Terms", "or the passage would go behind the end of either book");
        Scriptorium x = new Scriptorium();
        Checks.bound(x, 0, 3, 3, 1, 2, 3);
        x.bind(1, 3, 5);
        beyond(x, new int[][] {
            {0, 0, 4}, {1, 0, 3}, {2, 0, 2}, {3, 0, 1}, {0, 3, 3}, {0, 4, 2}, {0, 5, 1}, {0, 0, 100},
            {Checks.MAX, 0, 1}, {0, Checks.MAX, 1}, {Checks.MAX, Checks.MAX, 100}, {Checks.MAX - 1, 0, 3}
        });
        T.due("up to the end of a", x.copy(0, 0, 1, 1, 0, 2), 2);
        T.due("up to the end of both", x.copy(0, 0, 0, 1, 2, 3), 3);
        T.dueSigns("up to the end of both", x, 1, 2, 3, 1, 2, 3);
        x.bind(2, 3, 0);
        T.due("1 sign out of a book of none", x.copy(0, 2, 0, 1, 0, 1), -3);
        T.due("1 sign into a book of none", x.copy(0, 1, 0, 2, 0, 1), -3);
        x.bind(3, 3, 40);
        T.due("40 signs of 40", x.copy(0, 3, 0, 3, 0, 40), 40);
        T.due("41 signs of 40", x.copy(0, 3, 0, 3, 0, 41), -3);
    }

    private static void noSigns() {
        T.sentence("Terms", "(n 0 is a passage, too: it may begin at the end).");
        Scriptorium x = new Scriptorium();
        x.bind(0, 3, 3);
        x.bind(1, 3, 5);
        x.bind(2, 3, 0);
        T.due("at the end of both", x.copy(0, 0, 3, 1, 5, 0), 0);
        T.due("it is a passage", x.count(0), 1);
        T.dueLatest("it is told", x, 0, 0, 1, 0);
        T.due("behind the end of a", x.copy(0, 0, 4, 1, 5, 0), Checks.BEYOND);
        T.due("behind the end of b", x.copy(0, 0, 3, 1, 6, 0), Checks.BEYOND);
        T.due("at the start", x.copy(0, 0, 0, 1, 0, 0), 0);
        T.due("a book of no signs", x.copy(0, 2, 0, 2, 0, 0), 0);
        T.due("behind the end of a book of no signs", x.copy(0, 2, 1, 2, 0, 0), Checks.BEYOND);
        T.due("far behind the end", x.copy(0, 0, Checks.MAX, 1, 0, 0), Checks.BEYOND);
        T.due("no ink is used", x.scribe(0, 0), 100);
    }

    private static void stopped() {
        T.sentence("Terms", "STOPPED (-10 - k): the k signs ahead (from 0 on) were copied and stay, "
            + "the next one may not stand there:");
        for (int k : new int[] {0, 1, 2, 38, 39}) {
            Scriptorium x = new Scriptorium();
            x.bind(0, 6, 40);
            x.bind(1, 7, 40);
            for (int p = 0; p < 40; p++) {
                x.write(0, p, p == k ? Checks.PLANT : Checks.BEAST, p);
                x.write(1, p, Checks.BEAST, 100);
            }
            T.due("stopped at " + k, x.copy(0, 0, 0, 1, 0, 40), -10 - k);
            long[] want = new long[40];
            for (int p = 0; p < 40; p++) {
                want[p] = p < k ? 4 * p + 1 : 401;
            }
            T.dueSigns("stopped at " + k, x, 1, want);
            T.dueLatest("stopped at " + k, x, 0, 0, 1, -10 - k);
        }
        Scriptorium x = new Scriptorium();
        x.bind(0, 6, 5);
        x.write(0, 3, Checks.PLANT, 4);
        x.write(0, 4, Checks.PLANT, 4);
        x.bind(1, 7, 9);
        T.due("k is told from the passage's start on", x.copy(0, 0, 1, 1, 5, 4), -12);
        T.due("up to the one that stops", x.copy(0, 0, 0, 1, 0, 3), 3);
        T.due("it is the only one", x.copy(0, 0, 3, 1, 8, 1), -10);
        T.due("it is not in the passage", x.copy(0, 0, 3, 1, 0, 0), 0);
    }

    private static void mayNotStand() {
        T.sentence("Terms", "a plant in a book of beasts, a beast in a book of plants");
        for (int from = 6; from < 9; from++) {
            for (int to = 6; to < 9; to++) {
                for (int sort = 1; sort < 3; sort++) {
                    Scriptorium x = new Scriptorium();
                    x.bind(0, from, 1);
                    x.bind(1, to, 1);
                    if (x.write(0, 0, sort, 6) != 0) {
                        continue;
                    }
                    boolean stands = to == 6 || to == 7 && sort == Checks.BEAST || to == 8 && sort == Checks.PLANT;
                    String call = "sort " + sort + " of script " + from + " into " + to;
                    T.due(call, x.copy(0, 0, 0, 1, 0, 1), stands ? 1 : -10);
                    T.dueSigns(call, x, 1, stands ? 24 + sort : 0);
                }
            }
        }
    }

    private static void bareEverywhere() {
        T.sentence("Terms", "(a BARE place may be copied into all).");
        for (int from = 6; from < 9; from++) {
            for (int to = 6; to < 9; to++) {
                Scriptorium x = new Scriptorium();
                x.bind(0, from, 3);
                x.bind(1, to, 3);
                int own = to == 8 ? Checks.PLANT : Checks.BEAST;
                x.write(1, 0, own, 3);
                x.write(1, 2, own, 3);
                String call = "bare places of script " + from + " into " + to;
                T.due(call, x.copy(0, 0, 0, 1, 0, 2), 2);
                T.dueSigns(call, x, 1, 0, 0, 12 + own);
            }
        }
    }

    private static void whole() {
        T.sentence("Terms", "Else n: all were copied.");
        for (int n : new int[] {0, 1, 2, 39, 40}) {
            Scriptorium x = new Scriptorium();
            x.bind(0, 6, 40);
            x.bind(1, 6, 40);
            long[] want = new long[40];
            for (int p = 0; p < 40; p++) {
                int sort = 1 + p % 2;
                x.write(0, p, sort, p);
                want[p] = p < n ? 4 * p + sort : 0;
            }
            T.due("n " + n, x.copy(0, 0, 0, 1, 0, n), n);
            T.dueSigns("n " + n, x, 1, want);
        }
    }

    private static void inkUsed() {
        T.sentence("Terms", "Each sign that was copied, also ahead of one that stopped it, uses 1 of the scribe's INK;");
        Scriptorium x = new Scriptorium();
        x.bind(0, 6, 40);
        x.write(0, 3, Checks.PLANT, 4);
        x.bind(1, 7, 40);
        int[][] steps = {{0, 0}, {1, 1}, {3, 3}, {4, 3}, {40, 3}, {41, 0}, {-1, 0}};
        int ink = 100;
        for (int[] step : steps) {
            x.copy(1, 0, 0, 1, 0, step[0]);
            ink -= step[1];
            T.due("ink after n " + step[0], x.scribe(1, 0), ink);
            T.due("signs after n " + step[0], x.scribe(1, 2), 100 - ink);
        }
        x.copy(1, 0, 3, 1, 0, 5);
        T.due("ink after one that stopped at once", x.scribe(1, 0), ink);
        x.copy(1, 2, 0, 1, 0, 5);
        x.stone(2);
        x.copy(1, 2, 0, 1, 0, 5);
        T.due("ink after EMPTY and UNLIKE", x.scribe(1, 0), ink);
        x.copy(1, 0, 0, 0, 0, 40);
        T.due("ink of signs copied to their own place", x.scribe(1, 0), ink - 40);
        T.due("another's ink", x.scribe(0, 0), 100);
        T.due("a third one's ink", x.scribe(2, 0), 100);
    }

    private static void lessInk() {
        T.sentence("Terms", "where a scribe has less INK than n, there is no passage");
        Scriptorium x = new Scriptorium();
        Checks.drain(x, 0, 2);
        int passages = x.count(0);
        Checks.bound(x, 0, 3, 4, 5, 6, 7, 8);
        x.bind(1, 3, 4);
        T.due("3 signs with 2 ink", x.copy(0, 0, 0, 1, 0, 3), Checks.DRY);
        T.due("the greatest n with 2 ink", x.copy(0, 0, 0, 1, 0, Checks.MAX), Checks.DRY);
        T.dueSigns("nothing was copied", x, 1, 0, 0, 0, 0);
        T.due("no ink was used", x.scribe(0, 0), 2);
        T.due("no passage", x.count(0), passages);
        T.dueLatest("none is told", x, 0, 5, 5, 18);
        T.due("2 signs with 2 ink", x.copy(0, 0, 0, 1, 0, 2), 2);
        T.due("1 sign with no ink", x.copy(0, 0, 0, 1, 0, 1), Checks.DRY);
        T.due("no sign with no ink", x.copy(0, 0, 0, 1, 0, 0), 0);
        T.due("below 0 signs with no ink", x.copy(0, 0, 0, 1, 0, -1), Checks.BEYOND);
        T.due("another scribe has ink", x.copy(1, 0, 0, 1, 0, 4), 4);
        x.fill(2, 1000);
        T.due("1000 signs with 1000 ink", x.copy(2, 0, 0, 1, 0, 1000), Checks.BEYOND);
        T.due("1001 signs with 1000 ink", x.copy(2, 0, 0, 1, 0, 1001), Checks.DRY);
        inkOfThoseThatWouldStop();
    }

    /** n is asked, not how many signs would be copied. */
    private static void inkOfThoseThatWouldStop() {
        Scriptorium x = new Scriptorium();
        Checks.drain(x, 0, 2);
        x.bind(0, 6, 3);
        x.write(0, 1, Checks.PLANT, 1);
        x.bind(1, 7, 3);
        T.due("3 signs, of which 1 would be copied, with 2 ink", x.copy(0, 0, 0, 1, 0, 3), Checks.DRY);
        T.due("2 signs, of which 1 would be copied, with 2 ink", x.copy(0, 0, 0, 1, 0, 2), -11);
        T.due("1 ink is left", x.scribe(0, 0), 1);
    }

    private static void dryAheadOfAll() {
        T.sentence("Terms", "(DRY, -50; this is asked ahead of all these).");
        Scriptorium x = new Scriptorium();
        x.stone(1);
        x.bind(2, 3, 2);
        x.bind(3, 7, 2);
        x.bind(4, 8, 2);
        x.write(3, 0, Checks.BEAST, 1);
        T.due("ahead of EMPTY", x.copy(0, 0, 0, 2, 0, 101), -50);
        T.due("ahead of UNLIKE, a stone", x.copy(0, 1, 0, 2, 0, 101), -50);
        T.due("ahead of UNLIKE, scripts", x.copy(0, 2, 0, 3, 0, 101), -50);
        T.due("ahead of BEYOND, i", x.copy(0, 2, -1, 2, 0, 101), -50);
        T.due("ahead of BEYOND, n", x.copy(0, 2, 0, 2, 0, 101), -50);
        T.due("with ink enough: EMPTY", x.copy(0, 0, 0, 2, 0, 100), Checks.EMPTY);
        T.due("with ink enough: UNLIKE", x.copy(0, 1, 0, 2, 0, 100), Checks.UNLIKE);
        T.due("with ink enough: BEYOND", x.copy(0, 2, 0, 2, 0, 100), Checks.BEYOND);
        Checks.drain(x, 0, 1);
        T.due("ahead of STOPPED", x.copy(0, 3, 0, 4, 0, 2), -50);
        T.due("with ink enough: STOPPED", x.copy(0, 3, 0, 4, 0, 1), -10);
    }

    private static void intoTheChronicle() {
        T.sentence("Terms", "A passage that there was, whatever its answer, comes into the CHRONICLE:");
        Scriptorium x = new Scriptorium();
        x.stone(1);
        x.bind(2, 6, 2);
        x.bind(3, 7, 2);
        x.write(2, 1, Checks.PLANT, 1);
        x.copy(0, 5, 0, 2, 0, 1);
        T.dueLatest("EMPTY", x, 0, 5, 2, -1);
        x.copy(1, 2, 0, 1, 0, 1);
        T.dueLatest("UNLIKE", x, 1, 2, 1, -2);
        x.copy(2, 3, 0, 2, 2, 1);
        T.dueLatest("BEYOND", x, 2, 3, 2, -3);
        x.copy(0, 2, 0, 3, 0, 2);
        T.dueLatest("STOPPED", x, 0, 2, 3, -11);
        x.copy(1, 2, 0, 2, 0, 2);
        T.dueLatest("whole", x, 1, 2, 2, 2);
        x.copy(2, 2, 0, 3, 0, 0);
        T.dueLatest("of no signs", x, 2, 2, 3, 0);
        x.copy(0, 2, 0, 3, 0, 101);
        T.dueLatest("DRY is none", x, 2, 2, 3, 0);
        x.copy(0, 6, 0, 3, 0, 1);
        x.copy(3, 2, 0, 3, 0, 1);
        T.dueLatest("REFUSED is none", x, 2, 2, 3, 0);
        x.order(1, 3, 0, 2, 0, 1);
        T.dueLatest("an order that waits is none yet", x, 2, 2, 3, 0);
        x.day();
        T.dueLatest("an order that was done", x, 1, 3, 2, 1);
        T.due("seven in all", x.chronicle(7, 0), Checks.REFUSED);
        T.due("the first of them", x.chronicle(6, 3), -1);
    }

    private static void latestSixteen() {
        T.sentence("Terms", "the latest 16 stand there.");
        Scriptorium x = new Scriptorium();
        x.bind(0, 3, 40);
        for (int made = 1; made <= 50; made++) {
            x.fill(made % 3, 1000);
            x.copy(made % 3, 0, 0, 0, 0, made % 41);
            int held = Math.min(made, 16);
            for (int k : new int[] {0, held - 1}) {
                T.due(made + " made, chronicle(" + k + ", 0)", x.chronicle(k, 0), (made - k) % 3);
                T.due(made + " made, chronicle(" + k + ", 3)", x.chronicle(k, 3), (made - k) % 41);
            }
            T.due(made + " made, chronicle(" + held + ", 0)", x.chronicle(held, 0), Checks.REFUSED);
        }
        for (int k = 0; k < 16; k++) {
            T.due("50 made, chronicle(" + k + ", 3)", x.chronicle(k, 3), (50 - k) % 41);
        }
    }

    private static void copy() {
        T.sentence("Promise 7", "A passage by a scribe: its answer, DRY, or REFUSED.");
        for (int s = 0; s < 3; s++) {
            Scriptorium x = new Scriptorium();
            Checks.bound(x, 0, 3, 2, 7, 8);
            x.bind(5, 3, 2);
            T.due("by scribe " + s, x.copy(s, 0, 0, 5, 0, 2), 2);
            T.dueSigns("by scribe " + s, x, 5, 7, 8);
            T.dueLatest("by scribe " + s, x, s, 0, 5, 2);
            T.due("DRY, by scribe " + s, x.copy(s, 0, 0, 5, 0, 99), Checks.DRY);
            for (int other = 0; other < 3; other++) {
                T.due("ink of " + other, x.scribe(other, 0), other == s ? 98 : 100);
                T.due("signs of " + other, x.scribe(other, 2), other == s ? 2 : 0);
            }
        }
        Scriptorium x = new Scriptorium();
        Checks.bound(x, 0, 3, 1, 7);
        for (int s : Checks.NO_SCRIBES) {
            T.due("copy(" + s + ", 0, 0, 0, 0, 1)", x.copy(s, 0, 0, 0, 0, 1), Checks.REFUSED);
            T.due("copy(" + s + ", 6, -1, 0, 0, 1001)", x.copy(s, 6, -1, 0, 0, 1001), Checks.REFUSED);
        }
        for (int d : Checks.NO_DESKS) {
            T.due("copy(0, " + d + ", 0, 0, 0, 1)", x.copy(0, d, 0, 0, 0, 1), Checks.REFUSED);
            T.due("copy(0, 0, 0, " + d + ", 0, 1)", x.copy(0, 0, 0, d, 0, 1), Checks.REFUSED);
            T.due("copy(0, 1, -1, " + d + ", 0, 1)", x.copy(0, 1, -1, d, 0, 1), Checks.REFUSED);
            T.due("refused, though dry", x.copy(0, d, 0, 0, 0, 101), Checks.REFUSED);
        }
        T.due("refused is no passage", x.count(0), 0);
        T.due("refused uses no ink", x.scribe(0, 0), 100);
    }
}
