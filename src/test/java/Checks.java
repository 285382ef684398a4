/** Counts the answers of one test that are not as due, and ends the test with exit code 1 if there were any. */
final class Checks {
    static final int EMPTY = -1;
    static final int UNLIKE = -2;
    static final int BEYOND = -3;
    static final int STOPPED = -10;
    static final int DRY = -50;
    static final int NONE = -60;
    static final int REFUSED = -99;

    static final int[] NO_DESKS = {-1, 6, 7, Integer.MIN_VALUE, Integer.MAX_VALUE};
    static final int[] NO_SCRIBES = {-1, 3, 4, Integer.MIN_VALUE, Integer.MAX_VALUE};

    private int asked;
    private int wrong;

    void due(String call, long got, long want) {
        asked++;
        if (got != want) {
            wrong++;
            System.out.println(call + " answered " + got + ", due is " + want);
        }
    }

    /** The signs of a book from place 0 on, and that there are no more. */
    void dueSigns(String when, Scriptorium x, int desk, long... want) {
        due(when + ": size of the book on desk " + desk, x.book(desk, 1), want.length);
        for (int p = 0; p < want.length; p++) {
            due(when + ": sign(" + desk + ", " + p + ")", x.sign(desk, p), want[p]);
        }
    }

    void dueThrow(Scriptorium x, int desk, int place, Class<? extends RuntimeException> want) {
        asked++;
        Class<?> got = null;
        try {
            x.sign(desk, place);
        } catch (IllegalStateException | IndexOutOfBoundsException e) {
            got = e.getClass();
        }
        if (got != want) {
            wrong++;
            System.out.println("sign(" + desk + ", " + place + ") throws " + got + ", due is " + want);
        }
    }

    /** A book on a desk whose first signs are these. */
    static void bound(Scriptorium x, int desk, int script, int size, long... signs) {
        x.bind(desk, script, size);
        for (int p = 0; p < signs.length; p++) {
            x.write(desk, p, 0, signs[p]);
        }
    }

    void end() {
        if (asked == 0 || wrong != 0) {
            System.out.println(wrong + " of " + asked + " answers are not as due");
            System.exit(1);
        }
    }
}
