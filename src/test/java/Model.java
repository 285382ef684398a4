import java.util.ArrayDeque;
import java.util.ArrayList;
import java.util.Arrays;
import java.util.Deque;
import java.util.List;

/**
 * The document told once more, in another way than the program (signs as objects in lists, a
 * passage sign by sign from a snapshot, a chronicle of all time), to set the two against each other.
 */
final class Model {
    /** A sign's sort is 0 for all that is no beast and no plant. */
    record Sign(int sort, long value) { }

    record Entry(int scribe, int a, int b, int answer) { }

    static final class Lying {
        final boolean stone;
        final int script;
        final List<Sign> signs = new ArrayList<>();

        Lying(boolean stone, int script, int size) {
            this.stone = stone;
            this.script = script;
            for (int p = 0; p < size; p++) {
                signs.add(new Sign(0, 0));
            }
        }
    }

    final Lying[] desks = new Lying[6];
    final int[] ink = {100, 100, 100};
    final int[] copied = new int[3];
    final List<Deque<int[]>> orders = new ArrayList<>();
    final List<Entry> entries = new ArrayList<>();
    int bound;

    Model() {
        for (int s = 0; s < 3; s++) {
            orders.add(new ArrayDeque<>());
        }
    }

    static boolean in(int x, int low, int high) {
        return low <= x && x <= high;
    }

    int bind(int desk, int script, int size) {
        if (!in(desk, 0, 5) || !in(script, 0, 8) || !in(size, 0, 40)) {
            return -99;
        }
        desks[desk] = new Lying(false, script, size);
        bound++;
        return 0;
    }

    int stone(int desk) {
        if (!in(desk, 0, 5)) {
            return -99;
        }
        desks[desk] = new Lying(true, -1, 0);
        return 0;
    }

    int share(int a, int b) {
        if (!in(a, 0, 5) || !in(b, 0, 5)) {
            return -99;
        }
        desks[b] = desks[a];
        return 0;
    }

    int clear(int desk) {
        if (!in(desk, 0, 5)) {
            return -99;
        }
        desks[desk] = null;
        return 0;
    }

    static boolean mayStand(int script, int sort) {
        return sort == 0 || script == 6 || script == 7 && sort == 1 || script == 8 && sort == 2;
    }

    int write(int desk, int place, int sort, long v) {
        if (!in(desk, 0, 5)) {
            return -99;
        }
        Lying l = desks[desk];
        if (l != null && !l.stone && l.script >= 6 && !in(sort, 0, 2)) {
            return -99;
        }
        if (l == null) {
            return -1;
        }
        if (l.stone) {
            return -2;
        }
        if (!in(place, 0, l.signs.size() - 1)) {
            return -3;
        }
        if (l.script >= 6 && !mayStand(l.script, sort)) {
            return -10;
        }
        l.signs.set(place, made(l.script, sort, v));
        return 0;
    }

    private static Sign made(int script, int sort, long v) {
        if (script >= 6) {
            return sort == 0 ? new Sign(0, 0) : new Sign(sort, v << 32 >> 32);
        }
        int[] bits = {8, 16, 16, 32, 64, 1};
        int rest = 64 - bits[script];
        boolean isSigned = script != 1 && script != 5;
        return new Sign(0, isSigned ? v << rest >> rest : v << rest >>> rest);
    }

    static boolean alike(Lying x, Lying y) {
        return !x.stone && !y.stone && (x.script == y.script || Math.min(x.script, y.script) >= 6);
    }

    int copy(int scribe, int a, int i, int b, int j, int n) {
        if (!in(scribe, 0, 2) || !in(a, 0, 5) || !in(b, 0, 5)) {
            return -99;
        }
        if (n > ink[scribe]) {
            return -50;
        }
        int before = copied[scribe];
        int answer = passage(scribe, desks[a], i, desks[b], j, n);
        ink[scribe] -= copied[scribe] - before;
        entries.add(new Entry(scribe, a, b, answer));
        return answer;
    }

    private int passage(int scribe, Lying from, long i, Lying to, long j, long n) {
        if (from == null || to == null) {
            return -1;
        }
        if (!alike(from, to)) {
            return -2;
        }
        if (i < 0 || j < 0 || n < 0 || i + n > from.signs.size() || j + n > to.signs.size()) {
            return -3;
        }
        List<Sign> ahead = new ArrayList<>(from.signs);
        for (int k = 0; k < n; k++) {
            Sign sign = ahead.get((int) i + k);
            if (!mayStand(to.script, sign.sort())) {
                return -10 - k;
            }
            to.signs.set((int) j + k, sign);
            copied[scribe]++;
        }
        return (int) n;
    }

    int order(int scribe, int a, int i, int b, int j, int n) {
        if (!in(scribe, 0, 2) || !in(a, 0, 5) || !in(b, 0, 5) || orders.get(scribe).size() == 8) {
            return -99;
        }
        orders.get(scribe).addLast(new int[] {a, i, b, j, n});
        return orders.get(scribe).size();
    }

    int day() {
        int done = 0;
        for (int s = 0; s < 3; s++) {
            int[] o = orders.get(s).peekFirst();
            if (o != null && copy(s, o[0], o[1], o[2], o[3], o[4]) != -50) {
                orders.get(s).removeFirst();
                done++;
            }
        }
        return done;
    }

    int fill(int scribe, int n) {
        if (!in(scribe, 0, 2) || !in(n, 0, 1000)) {
            return -99;
        }
        ink[scribe] = ink[scribe] + n > 1000 ? 1000 : ink[scribe] + n;
        return ink[scribe];
    }

    int scribe(int scribe, int what) {
        if (!in(scribe, 0, 2) || !in(what, 0, 2)) {
            return -99;
        }
        return new int[] {ink[scribe], orders.get(scribe).size(), copied[scribe]}[what];
    }

    /** The sign as a text, or the name of the exception that is due. */
    String sign(int desk, int place) {
        if (!in(desk, 0, 5) || desks[desk] == null || desks[desk].stone) {
            return "IllegalStateException";
        }
        if (!in(place, 0, desks[desk].signs.size() - 1)) {
            return "IndexOutOfBoundsException";
        }
        Sign sign = desks[desk].signs.get(place);
        return Long.toString(sign.sort() == 0 ? sign.value() : sign.value() * 4 + sign.sort());
    }

    int book(int desk, int what) {
        if (!in(desk, 0, 5) || !in(what, 0, 1)) {
            return -99;
        }
        Lying l = desks[desk];
        if (l == null) {
            return -1;
        }
        if (l.stone) {
            return -2;
        }
        return what == 0 ? l.script : l.signs.size();
    }

    int differ(int a, int b) {
        if (!in(a, 0, 5) || !in(b, 0, 5)) {
            return -99;
        }
        if (desks[a] == null || desks[b] == null) {
            return -1;
        }
        if (!alike(desks[a], desks[b])) {
            return -2;
        }
        Sign[] x = desks[a].signs.toArray(new Sign[0]);
        Sign[] y = desks[b].signs.toArray(new Sign[0]);
        int p = Arrays.mismatch(x, y);
        return p < 0 ? -60 : p;
    }

    int chronicle(int k, int what) {
        if (!in(k, 0, Math.min(16, entries.size()) - 1) || !in(what, 0, 3)) {
            return -99;
        }
        Entry e = entries.get(entries.size() - 1 - k);
        return new int[] {e.scribe(), e.a(), e.b(), e.answer()}[what];
    }

    int count(int what) {
        switch (what) {
            case 0: return entries.size();
            case 1: return (int) entries.stream().filter(e -> e.answer() >= 0).count();
            case 2: case 3: case 4:
                return (int) entries.stream().filter(e -> e.answer() == 1 - what).count();
            case 5: return (int) entries.stream().filter(e -> e.answer() <= -10).count();
            case 6: return copied[0] + copied[1] + copied[2];
            case 7: return bound;
            default: return -99;
        }
    }
}
