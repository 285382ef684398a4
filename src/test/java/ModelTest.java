import java.util.ArrayList;
import java.util.List;

/** All promises at once: long runs of calls, the program's answers against the model's, and all that can be seen at the end. */
final class ModelTest {
    private static final int RUNS = 6000;
    /** No more is promised of an object. */
    private static final int MOST_CALLS = 512;
    /** What look asks at most, and what one step does. */
    private static final int CALLS_OF_LOOK = 360;
    private static final int CALLS_OF_STEP = 2;
    private static final int[] ODD = {
        -1, -2, 3, 6, 9, 40, 41, 100, 1000, 1001, Integer.MAX_VALUE, Integer.MAX_VALUE - 1, Integer.MIN_VALUE
    };

    private final Scriptorium x = new Scriptorium();
    private final Model m = new Model();
    private final List<String> calls = new ArrayList<>();
    private final boolean picturesMostly;
    private final int oddities;
    private long state;
    private boolean wrong;

    private ModelTest(int run) {
        state = run * 0x9e3779b97f4a7c15L + 1;
        picturesMostly = run % 2 == 0;
        oddities = run % 3 == 0 ? 4 : 40;
    }

    public static void main(String[] args) {
        for (int run = 0; run < RUNS; run++) {
            ModelTest test = new ModelTest(run);
            boolean looks = run % 5 < 2;
            int steps = MOST_CALLS - CALLS_OF_STEP - (looks ? CALLS_OF_LOOK : 0);
            while (test.calls.size() <= steps && !test.wrong) {
                test.step();
            }
            if (looks && !test.wrong) {
                test.look();
            }
            if (test.calls.size() > MOST_CALLS) {
                test.wrong = true;
                test.calls.add("more calls than are promised");
            }
            if (test.wrong) {
                test.calls.forEach(System.out::println);
                System.exit(1);
            }
        }
    }

    /** A generator of our own with a written seed: each run is the same every time. */
    private int below(int bound) {
        state = state * 6364136223846793005L + 1442695040888963407L;
        return (int) ((state >>> 33) % bound);
    }

    private int oddOr(int usual) {
        return below(oddities) == 0 ? ODD[below(ODD.length)] : usual;
    }

    private int desk() {
        return oddOr(below(6));
    }

    private int who() {
        return oddOr(below(3));
    }

    private long value() {
        long wide = (long) below(Integer.MAX_VALUE) << 33 ^ (long) below(Integer.MAX_VALUE) << 8 ^ below(256);
        return below(2) == 0 ? below(4) : wide >> below(64);
    }

    private void same(String call, long got, long want) {
        calls.add(call + " answered " + got);
        if (got != want) {
            wrong = true;
            calls.add("due is " + want);
        }
    }

    private void sameSign(int desk, int place) {
        String got;
        try {
            got = Long.toString(x.sign(desk, place));
        } catch (IllegalStateException | IndexOutOfBoundsException e) {
            got = e.getClass().getSimpleName();
        }
        calls.add("sign(" + desk + ", " + place + ") answered " + got);
        if (!got.equals(m.sign(desk, place))) {
            wrong = true;
            calls.add("due is " + m.sign(desk, place));
        }
    }

    private void step() {
        int a = desk();
        int b = desk();
        int what = oddOr(below(9));
        switch (below(24)) {
            case 0: bind(a); break;
            case 1: rareLaying(a); break;
            case 2: same("share(" + a + ", " + b + ")", x.share(a, b), m.share(a, b)); break;
            case 3: case 4: case 5: case 6: case 7: write(a); break;
            case 8: case 9: case 10: case 11: case 12: case 13: case 14: case 15: passage(a, b); break;
            case 16: case 17: same("day()", x.day(), m.day()); break;
            case 18: fill(); break;
            case 19: sameScribe(who(), what); break;
            case 20: sameSign(a, oddOr(below(12))); break;
            case 21: same("book(" + a + ", " + what + ")", x.book(a, what), m.book(a, what)); break;
            case 22: same("differ(" + a + ", " + b + ")", x.differ(a, b), m.differ(a, b)); break;
            default: sameTold(oddOr(below(18)), what); break;
        }
    }

    private void bind(int desk) {
        int script = oddOr(picturesMostly ? 6 + below(3) : below(9));
        int size = oddOr(below(4) == 0 ? below(41) : below(12));
        same("bind(" + desk + ", " + script + ", " + size + ")", x.bind(desk, script, size), m.bind(desk, script, size));
    }

    private void rareLaying(int desk) {
        if (below(3) != 0) {
            bind(desk);
        } else if (below(2) == 0) {
            same("stone(" + desk + ")", x.stone(desk), m.stone(desk));
        } else {
            same("clear(" + desk + ")", x.clear(desk), m.clear(desk));
        }
    }

    private void write(int desk) {
        int place = oddOr(below(12));
        int sort = oddOr(below(3));
        long v = value();
        String call = "write(" + desk + ", " + place + ", " + sort + ", " + v + ")";
        same(call, x.write(desk, place, sort, v), m.write(desk, place, sort, v));
    }

    private void passage(int a, int b) {
        int s = who();
        int i = oddOr(below(6));
        int j = oddOr(below(6));
        int n = oddOr(below(8) == 0 ? below(41) : below(7));
        String rest = "(" + s + ", " + a + ", " + i + ", " + b + ", " + j + ", " + n + ")";
        if (below(3) == 0) {
            same("order" + rest, x.order(s, a, i, b, j, n), m.order(s, a, i, b, j, n));
        } else {
            same("copy" + rest, x.copy(s, a, i, b, j, n), m.copy(s, a, i, b, j, n));
        }
    }

    private void fill() {
        int s = who();
        int n = oddOr(below(8) == 0 ? below(1001) : below(60));
        same("fill(" + s + ", " + n + ")", x.fill(s, n), m.fill(s, n));
    }

    private void sameScribe(int s, int what) {
        same("scribe(" + s + ", " + what + ")", x.scribe(s, what), m.scribe(s, what));
    }

    private void sameTold(int k, int what) {
        same("chronicle(" + k + ", " + what + ")", x.chronicle(k, what), m.chronicle(k, what));
        same("count(" + what + ")", x.count(what), m.count(what));
    }

    private void look() {
        for (int d = 0; d < 6; d++) {
            for (int p = -1; p <= Math.max(0, m.book(d, 1)); p++) {
                sameSign(d, p);
            }
        }
        for (int what = 0; what < 4; what++) {
            for (int k = 0; k < 17; k++) {
                same("chronicle(" + k + ", " + what + ")", x.chronicle(k, what), m.chronicle(k, what));
            }
        }
        for (int what = 0; what < 8; what++) {
            same("count(" + what + ")", x.count(what), m.count(what));
        }
        for (int s = 0; s < 3; s++) {
            for (int what = 0; what < 3; what++) {
                sameScribe(s, what);
            }
        }
    }
}
