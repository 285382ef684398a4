/** Promises 6 (write) and 12 (sign). */
final class SignsTest {
    private static final Checks T = new Checks();
    private static final long[] VALUES = {
        0, 1, -1, 2, 3, 127, 128, -128, -129, 255, 256, 32767, 32768, -32768, -32769, 65535, 65536,
        0x7fffffffL, 0x80000000L, 0xffffffffL, 0x100000000L, -0x80000000L, -0x80000001L,
        0x123456789abcdef0L, Long.MAX_VALUE, Long.MIN_VALUE
    };

    public static void main(String[] args) {
        lowestBits();
        lights();
        pictures();
        sortOfOtherScripts();
        firstOfAnswers();
        writeRefused();
        writeWithoutBook();
        writeBeyond();
        writeStopped();
        noInk();
        sign();
        signWithoutBook();
        signWithoutPlace();
        T.end();
    }

    private static long cut(int script, long v) {
        switch (script) {
            case 0: return Math.floorMod(v + 128, 256L) - 128;
            case 1: return Math.floorMod(v, 65536L);
            case 2: return Math.floorMod(v + 32768, 65536L) - 32768;
            case 3: return Math.floorMod(v + 0x80000000L, 0x100000000L) - 0x80000000L;
            default: return v;
        }
    }

    private static void lowestBits() {
        T.sentence("Promise 6", "The sign at a place becomes v: of scripts 0 to 3 its lowest bits,");
        for (int script = 0; script < 5; script++) {
            for (long v : VALUES) {
                Scriptorium x = new Scriptorium();
                x.bind(2, script, 3);
                String call = "script " + script + ", write(2, 1, 0, " + v + ")";
                T.due(call, x.write(2, 1, 0, v), 0);
                T.dueSigns(call, x, 2, 0, cut(script, v), 0);
            }
        }
        long[] v = {200, 65537, 40000, 0x180000000L, 0x180000000L};
        long[] want = {-56, 1, -25536, Checks.MIN, 0x180000000L};
        for (int script = 0; script < 5; script++) {
            Scriptorium x = new Scriptorium();
            Checks.bound(x, 0, script, 1, v[script]);
            T.due("script " + script + ": " + v[script], x.sign(0, 0), want[script]);
        }
        Scriptorium x = new Scriptorium();
        x.bind(0, 3, 40);
        T.due("at the first place", x.write(0, 0, 0, 5), 0);
        T.due("at the last place", x.write(0, 39, 0, 6), 0);
        T.due("at the last place once more", x.write(0, 39, 0, 7), 0);
        T.due("the first sign", x.sign(0, 0), 5);
        T.due("the last sign", x.sign(0, 39), 7);
        T.due("a sign between", x.sign(0, 20), 0);
    }

    private static void lights() {
        T.sentence("Promise 6", "of lights the lowest one;");
        for (long v : VALUES) {
            Scriptorium x = new Scriptorium();
            Checks.bound(x, 0, 5, 3, 1, 1, 1);
            T.due("write(0, 1, 0, " + v + ")", x.write(0, 1, 0, v), 0);
            T.dueSigns("of " + v, x, 0, 1, Math.floorMod(v, 2L), 1);
        }
    }

    private static void pictures() {
        T.sentence("Promise 6", "where pictures are: sort 0 BARE, 1 a beast, 2 a plant, "
            + "with the number of v's lowest 32 bits");
        for (int script = 6; script < 9; script++) {
            for (int sort = 1; sort < 3; sort++) {
                if (script == 7 && sort == Checks.PLANT || script == 8 && sort == Checks.BEAST) {
                    continue;
                }
                for (long v : VALUES) {
                    Scriptorium x = new Scriptorium();
                    x.bind(0, script, 3);
                    String call = "script " + script + ", write(0, 1, " + sort + ", " + v + ")";
                    T.due(call, x.write(0, 1, sort, v), 0);
                    T.dueSigns(call, x, 0, 0, 4 * cut(3, v) + sort, 0);
                    T.due(call + ", then BARE", x.write(0, 1, Checks.BARE, v), 0);
                    T.dueSigns(call + ", then BARE", x, 0, 0, 0, 0);
                }
            }
        }
        Scriptorium x = new Scriptorium();
        x.bind(0, 6, 1);
        x.write(0, 0, Checks.BEAST, 3);
        x.write(0, 0, Checks.PLANT, 4);
        T.dueSigns("a plant in place of a beast", x, 0, 18);
    }

    private static void sortOfOtherScripts() {
        T.sentence("Promise 6", "(sort means nothing for other scripts).");
        for (int script = 0; script < 6; script++) {
            for (int sort : new int[] {-1, 0, 1, 2, 3, Checks.MIN, Checks.MAX}) {
                Scriptorium x = new Scriptorium();
                x.bind(0, script, 1);
                Checks.bound(x, 1, script, 1, 1);
                String call = "script " + script + ", write(0, 0, " + sort + ", 1)";
                T.due(call, x.write(0, 0, sort, 1), 0);
                T.dueSigns(call, x, 0, 1);
                T.due(call + ": it leaves nothing behind", x.differ(0, 1), Checks.NONE);
                T.due(call + ": it is copied", x.copy(0, 0, 0, 1, 0, 1), 1);
            }
        }
    }

    private static void firstOfAnswers() {
        T.sentence("Promise 6", "0; else the first of:");
        Scriptorium x = new Scriptorium();
        x.stone(1);
        x.bind(2, 7, 2);
        T.due("no desk, no place, no sort", x.write(6, -1, 9, 1), Checks.REFUSED);
        T.due("no sort, no place", x.write(2, 2, 3, 1), Checks.REFUSED);
        T.due("empty, no place, no sort", x.write(0, -1, 9, 1), Checks.EMPTY);
        T.due("a stone, no place, no sort", x.write(1, -1, 9, 1), Checks.UNLIKE);
        T.due("no place, may not stand there", x.write(2, 2, Checks.PLANT, 1), Checks.BEYOND);
        T.due("may not stand there", x.write(2, 1, Checks.PLANT, 1), Checks.STOPPED);
        T.due("all is well", x.write(2, 1, Checks.BEAST, 1), 0);
    }

    private static void writeRefused() {
        T.sentence("Promise 6", "REFUSED (also a sort that is none, in a book of pictures),");
        for (int script = 6; script < 9; script++) {
            for (int sort : new int[] {-1, 3, 4, Checks.MIN, Checks.MAX}) {
                Scriptorium x = new Scriptorium();
                x.bind(0, script, 1);
                int own = script == 8 ? Checks.PLANT : Checks.BEAST;
                x.write(0, 0, own, 5);
                String call = "script " + script + ", write(0, 0, " + sort + ", 1)";
                T.due(call, x.write(0, 0, sort, 1), Checks.REFUSED);
                T.dueSigns(call + ": the sign stays", x, 0, 20 + own);
            }
        }
        Scriptorium x = new Scriptorium();
        for (int d : Checks.NO_DESKS) {
            T.due("write(" + d + ", 0, 0, 1)", x.write(d, 0, 0, 1), Checks.REFUSED);
        }
    }

    private static void writeWithoutBook() {
        T.sentence("Promise 6", "EMPTY, UNLIKE (a stone),");
        Scriptorium x = new Scriptorium();
        x.stone(1);
        for (int place : new int[] {0, -1, 1, 40}) {
            T.due("on an empty desk, at " + place, x.write(0, place, 0, 1), -1);
            T.due("on a stone, at " + place, x.write(1, place, 0, 1), -2);
        }
        x.bind(0, 3, 1);
        x.clear(0);
        T.due("on a cleared desk", x.write(0, 0, 0, 1), -1);
    }

    private static void writeBeyond() {
        T.sentence("Promise 6", "BEYOND (no such place),");
        for (int script = 0; script < 9; script++) {
            for (int size : new int[] {0, 1, 2, 40}) {
                Scriptorium x = new Scriptorium();
                x.bind(0, script, size);
                for (int place : new int[] {-1, size, size + 1, Checks.MIN, Checks.MAX}) {
                    String call = "script " + script + ", size " + size + ", write(0, " + place + ", 0, 1)";
                    T.due(call, x.write(0, place, 0, 1), Checks.BEYOND);
                }
                T.dueSigns("nothing was written", x, 0, new long[size]);
            }
        }
    }

    private static void writeStopped() {
        T.sentence("Promise 6", "STOPPED (-10: it may not stand there).");
        for (int script = 7; script < 9; script++) {
            int own = script == 7 ? Checks.BEAST : Checks.PLANT;
            Scriptorium x = new Scriptorium();
            x.bind(0, script, 3);
            x.write(0, 0, own, 9);
            T.due("script " + script + ", in place of its own", x.write(0, 0, 3 - own, 5), -10);
            T.due("script " + script + ", at a bare place", x.write(0, 1, 3 - own, 5), -10);
            T.due("script " + script + ", at the last place", x.write(0, 2, 3 - own, 5), -10);
            T.dueSigns("script " + script, x, 0, 36 + own, 0, 0);
            T.due("no passage was stopped", x.count(5), 0);
            T.due("no passage is told of", x.chronicle(0, 3), Checks.REFUSED);
        }
    }

    private static void noInk() {
        T.sentence("Promise 6", "No INK is used.");
        Scriptorium x = new Scriptorium();
        x.bind(0, 3, 2);
        x.bind(1, 7, 2);
        x.write(0, 0, 0, 4);
        x.write(0, 1, 0, 4);
        x.write(0, 2, 0, 4);
        x.write(1, 0, Checks.BEAST, 4);
        x.write(1, 0, Checks.PLANT, 4);
        for (int s = 0; s < 3; s++) {
            T.due("scribe(" + s + ", 0)", x.scribe(s, 0), 100);
            T.due("scribe(" + s + ", 2)", x.scribe(s, 2), 0);
            Checks.drain(x, s, 0);
        }
        T.due("write when all ink is used", x.write(0, 0, 0, 5), 0);
        T.due("what was written", x.sign(0, 0), 5);
    }

    private static void sign() {
        T.sentence("Promise 12", "The sign at a place: of pictures 0 if it is BARE, else 4 times the number, "
            + "and 1 (a beast) or 2 (a plant) more.");
        Scriptorium x = new Scriptorium();
        x.bind(0, 6, 8);
        long[] numbers = {0, 0, -1, -1, Checks.MAX, Checks.MAX, Checks.MIN, Checks.MIN};
        for (int p = 0; p < 8; p++) {
            x.write(0, p, 1 + p % 2, numbers[p]);
        }
        T.dueSigns("beasts and plants", x, 0,
            1, 2, -3, -2, 8589934589L, 8589934590L, -8589934591L, -8589934590L);
        x.write(0, 2, Checks.BARE, 77);
        T.due("bare, whatever v was", x.sign(0, 2), 0);
        x.bind(1, 7, 1);
        x.bind(2, 8, 1);
        T.due("bare among beasts", x.sign(1, 0), 0);
        T.due("bare among plants", x.sign(2, 0), 0);
        Checks.bound(x, 3, 4, 40, 5);
        x.write(3, 39, 0, 6);
        T.due("the first sign of a whole book", x.sign(3, 0), 5);
        T.due("the last sign of a whole book", x.sign(3, 39), 6);
    }

    private static void signWithoutBook() {
        T.sentence("Promise 12", "IllegalStateException: no book lies on such a desk (or there is no such desk).");
        Scriptorium x = new Scriptorium();
        x.stone(1);
        x.bind(2, 3, 1);
        x.clear(2);
        for (int place : new int[] {0, -1, 1, 40, Checks.MIN, Checks.MAX}) {
            for (int d : Checks.NO_DESKS) {
                T.dueThrow(x, d, place, IllegalStateException.class);
            }
            for (int d = 0; d < 3; d++) {
                T.dueThrow(x, d, place, IllegalStateException.class);
            }
        }
    }

    private static void signWithoutPlace() {
        T.sentence("Promise 12", "IndexOutOfBoundsException: there is no such place.");
        for (int script = 0; script < 9; script++) {
            for (int size : new int[] {0, 1, 2, 40}) {
                Scriptorium x = new Scriptorium();
                x.bind(0, script, size);
                for (int place : new int[] {-1, size, size + 1, Checks.MIN, Checks.MAX}) {
                    T.dueThrow(x, 0, place, IndexOutOfBoundsException.class);
                }
                if (size > 0) {
                    T.dueThrow(x, 0, 0, null);
                    T.dueThrow(x, 0, size - 1, null);
                }
            }
        }
    }
}
