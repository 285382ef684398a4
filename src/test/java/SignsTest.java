/** Promises 6 (write) and 12 (sign). */
final class SignsTest {
    private static final Checks T = new Checks();
    private static final long[] VALUES = {
        0, 1, -1, 2, 3, 127, 128, -128, -129, 255, 256, 32767, 32768, -32768, -32769, 65535, 65536,
        0x7fffffffL, 0x80000000L, 0xffffffffL, 0x100000000L, -0x80000000L, -0x80000001L,
        0x123456789abcdef0L, Long.MAX_VALUE, Long.MIN_VALUE
    };

    public static void main(String[] args) {
        numbers();
        writtenOut();
        pictures();
        sorts();
        stopped();
        failures();
        firstOfFailures();
        thrown();
        T.end();
    }

    private static long cut(int script, long v) {
        switch (script) {
            case 0: return Math.floorMod(v + 128, 256L) - 128;
            case 1: return Math.floorMod(v, 65536L);
            case 2: return Math.floorMod(v + 32768, 65536L) - 32768;
            case 3: return Math.floorMod(v + 0x80000000L, 0x100000000L) - 0x80000000L;
            case 4: return v;
            default: return Math.floorMod(v, 2L);
        }
    }

    private static void numbers() {
        for (int script = 0; script < 6; script++) {
            for (long v : VALUES) {
                Scriptorium x = new Scriptorium();
                x.bind(2, script, 3);
                String call = "script " + script + ", write(2, 1, 0, " + v + ")";
                T.due(call, x.write(2, 1, 0, v), 0);
                T.dueSigns(call, x, 2, 0, cut(script, v), 0);
                T.due(call + ": ink", x.scribe(0, 0), 100);
                T.due(call + ": passages", x.count(0), 0);
                T.due(call + ": signs copied", x.count(6), 0);
            }
        }
    }

    private static void writtenOut() {
        long[] v = {200, 65537, 40000, 0x180000000L, 0x180000000L, 6};
        long[] want = {-56, 1, -25536, Integer.MIN_VALUE, 0x180000000L, 0};
        for (int script = 0; script < 6; script++) {
            Scriptorium x = new Scriptorium();
            Checks.bound(x, 0, script, 1, v[script]);
            T.due("script " + script + ": " + v[script], x.sign(0, 0), want[script]);
        }
    }

    private static void pictures() {
        for (int script = 6; script < 9; script++) {
            for (int sort = 1; sort < 3; sort++) {
                if (script == 7 && sort == 2 || script == 8 && sort == 1) {
                    continue;
                }
                for (long v : VALUES) {
                    Scriptorium x = new Scriptorium();
                    x.bind(0, script, 2);
                    String call = "script " + script + ", write(0, 1, " + sort + ", " + v + ")";
                    T.due(call, x.write(0, 1, sort, v), 0);
                    T.dueSigns(call, x, 0, 0, 4 * cut(3, v) + sort);
                    T.due(call + ", then BARE", x.write(0, 1, 0, v), 0);
                    T.dueSigns(call + ", then BARE", x, 0, 0, 0);
                }
            }
        }
        Scriptorium x = new Scriptorium();
        x.bind(0, 6, 2);
        x.write(0, 0, 1, 0x7fffffffL);
        x.write(0, 1, 2, 0x80000000L);
        T.dueSigns("the greatest and the least number", x, 0, 8589934589L, -8589934590L);
    }

    private static void sorts() {
        for (int sort : new int[] {-1, 3, 4, Integer.MIN_VALUE, Integer.MAX_VALUE}) {
            for (int script = 0; script < 9; script++) {
                Scriptorium x = new Scriptorium();
                x.bind(0, script, 1);
                String call = "script " + script + ", write(0, 0, " + sort + ", 1)";
                T.due(call, x.write(0, 0, sort, 1), script < 6 ? 0 : Checks.REFUSED);
                T.dueSigns(call, x, 0, script < 6 ? 1 : 0);
            }
        }
        // A sort that means nothing leaves nothing behind, either.
        Scriptorium x = new Scriptorium();
        x.bind(0, 3, 1);
        x.bind(1, 3, 1);
        x.write(0, 0, 1, 5);
        x.write(1, 0, 2, 5);
        T.due("written with unlike sorts", x.differ(0, 1), Checks.NONE);
        T.due("copied", x.copy(0, 0, 0, 1, 0, 1), 1);
    }

    private static void stopped() {
        Scriptorium x = new Scriptorium();
        x.bind(0, 7, 2);
        x.bind(1, 8, 2);
        x.write(0, 0, 1, 9);
        x.write(1, 0, 2, 9);
        T.due("a plant among beasts", x.write(0, 0, 2, 5), Checks.STOPPED);
        T.due("a beast among plants", x.write(1, 0, 1, 5), Checks.STOPPED);
        T.due("a plant at a bare place among beasts", x.write(0, 1, 2, 5), Checks.STOPPED);
        T.dueSigns("beasts", x, 0, 37, 0);
        T.dueSigns("plants", x, 1, 38, 0);
        T.due("no passage was stopped", x.count(5), 0);
        T.due("no passage is told of", x.chronicle(0, 3), Checks.REFUSED);
    }

    private static void failures() {
        Scriptorium x = new Scriptorium();
        x.stone(1);
        x.bind(2, 3, 2);
        x.bind(3, 3, 0);
        for (int d : Checks.NO_DESKS) {
            T.due("write(" + d + ", 0, 0, 1)", x.write(d, 0, 0, 1), Checks.REFUSED);
        }
        T.due("write on an empty desk", x.write(0, 0, 0, 1), Checks.EMPTY);
        T.due("write on a stone", x.write(1, 0, 0, 1), Checks.UNLIKE);
        for (int place : new int[] {-1, 2, 40, Integer.MIN_VALUE, Integer.MAX_VALUE}) {
            T.due("write(2, " + place + ", 0, 1)", x.write(2, place, 0, 1), Checks.BEYOND);
        }
        T.due("write in a book of no signs", x.write(3, 0, 0, 1), Checks.BEYOND);
        T.dueSigns("nothing was written", x, 2, 0, 0);
    }

    private static void firstOfFailures() {
        Scriptorium x = new Scriptorium();
        x.stone(1);
        x.bind(2, 7, 2);
        T.due("no desk, no sort", x.write(6, -1, 9, 1), Checks.REFUSED);
        T.due("empty, with a sort that is none", x.write(0, -1, 9, 1), Checks.EMPTY);
        T.due("a stone, with a sort that is none", x.write(1, -1, 9, 1), Checks.UNLIKE);
        T.due("no sort, no place", x.write(2, 2, 3, 1), Checks.REFUSED);
        T.due("no place, may not stand there", x.write(2, 2, 2, 1), Checks.BEYOND);
        T.due("may not stand there", x.write(2, 1, 2, 1), Checks.STOPPED);
    }

    private static void thrown() {
        Scriptorium x = new Scriptorium();
        x.stone(1);
        Checks.bound(x, 2, 3, 2, 4, 5);
        x.bind(3, 6, 0);
        for (int d : Checks.NO_DESKS) {
            T.dueThrow(x, d, 0, IllegalStateException.class);
            T.dueThrow(x, d, -1, IllegalStateException.class);
        }
        for (int place : new int[] {-1, 0, 2, 40, Integer.MIN_VALUE, Integer.MAX_VALUE}) {
            T.dueThrow(x, 0, place, IllegalStateException.class);
            T.dueThrow(x, 1, place, IllegalStateException.class);
            T.dueThrow(x, 2, place, place == 0 ? null : IndexOutOfBoundsException.class);
            T.dueThrow(x, 3, place, IndexOutOfBoundsException.class);
        }
        T.dueSigns("as written", x, 2, 4, 5);
    }
}
