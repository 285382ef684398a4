import java.util.ArrayList;
import java.util.List;

/**
 * The checks of one test class, sentence by sentence of the document: an answer that is not as due
 * is printed with the sentence that it breaks, and ends the test with exit code 1.
 */
final class Checks {
    static final int EMPTY = -1;
    static final int UNLIKE = -2;
    static final int BEYOND = -3;
    static final int STOPPED = -10;
    static final int DRY = -50;
    static final int NONE = -60;
    static final int REFUSED = -99;

    static final int BARE = 0;
    static final int BEAST = 1;
    static final int PLANT = 2;

    static final int MIN = Integer.MIN_VALUE;
    static final int MAX = Integer.MAX_VALUE;
    static final int[] NO_DESKS = {-1, 6, 7, MIN, MAX};
    static final int[] NO_SCRIBES = {-1, 3, 4, MIN, MAX};

    record Quote(String section, String words) { }

    /** All that was quoted in this run of the machine, for SentencesTest. */
    static final List<Quote> QUOTED = new ArrayList<>();

    private String sentence = "";
    private int asked = 1;
    private int wrong;

    /** The checks that follow are those of these words, which stand so in that section of the document. */
    void sentence(String section, String words) {
        endSentence();
        QUOTED.add(new Quote(section, words));
        sentence = section + ", '" + words + "'";
        asked = 0;
    }

    private void endSentence() {
        if (asked == 0) {
            fault("nothing was asked");
        }
    }

    void fault(String text) {
        wrong++;
        System.out.println(sentence + ": " + text);
    }

    void due(String call, long got, long want) {
        asked++;
        if (got != want) {
            fault(call + " answered " + got + ", due is " + want);
        }
    }

    /** The signs of a book from place 0 on, and that there are no more. */
    void dueSigns(String when, Scriptorium x, int desk, long... want) {
        due(when + ": book(" + desk + ", 1)", x.book(desk, 1), want.length);
        for (int p = 0; p < want.length; p++) {
            due(when + ": sign(" + desk + ", " + p + ")", x.sign(desk, p), want[p]);
        }
    }

    void dueThrow(Scriptorium x, int desk, int place, Class<? extends RuntimeException> want) {
        asked++;
        Class<?> got = null;
        try {
            x.sign(desk, place);
        } catch (IllegalStateException | IndexOutOfBoundsException e) {
            got = e.getClass();
        }
        if (got != want) {
            fault("sign(" + desk + ", " + place + ") throws " + got + ", due is " + want);
        }
    }

    /** The latest passage as the chronicle tells it. */
    void dueLatest(String when, Scriptorium x, int scribe, int a, int b, int answer) {
        int[] want = {scribe, a, b, answer};
        for (int what = 0; what < 4; what++) {
            due(when + ": chronicle(0, " + what + ")", x.chronicle(0, what), want[what]);
        }
    }

    /** That two objects are in one state: all that is seen, and what comes of their orders and shared books. */
    void dueSame(String when, Scriptorium x, Scriptorium y) {
        dueText(when, seen(x), seen(y));
        for (int d = 0; d < 6; d++) {
            due(when + ", write", x.write(d, 0, BEAST, 90 + d), y.write(d, 0, BEAST, 90 + d));
        }
        for (int k = 0; k < 9; k++) {
            due(when + ", day", x.day(), y.day());
        }
        dueText(when + ", after days", seen(x), seen(y));
    }

    private void dueText(String when, String got, String want) {
        asked++;
        if (!got.equals(want)) {
            fault(when + ": seen is " + got + ", due is " + want);
        }
    }

    private static String seen(Scriptorium x) {
        StringBuilder all = new StringBuilder();
        for (int d = 0; d < 6; d++) {
            int size = x.book(d, 1);
            all.append("desk ").append(d).append(": ").append(x.book(d, 0)).append('/').append(size);
            for (int p = 0; p < size; p++) {
                all.append(' ').append(x.sign(d, p));
            }
            all.append("; ");
        }
        for (int s = 0; s < 3; s++) {
            all.append("scribe ").append(s).append(':');
            for (int what = 0; what < 3; what++) {
                all.append(' ').append(x.scribe(s, what));
            }
            all.append("; ");
        }
        for (int k = 0; k < 16 && x.chronicle(k, 0) != REFUSED; k++) {
            all.append("told ").append(x.chronicle(k, 0)).append(x.chronicle(k, 1)).append(x.chronicle(k, 2));
            all.append(' ').append(x.chronicle(k, 3)).append("; ");
        }
        for (int what = 0; what < 8; what++) {
            all.append(x.count(what)).append(' ');
        }
        return all.toString();
    }

    /** A book on a desk whose first signs are these. */
    static void bound(Scriptorium x, int desk, int script, int size, long... signs) {
        x.bind(desk, script, size);
        for (int p = 0; p < signs.length; p++) {
            x.write(desk, p, BARE, signs[p]);
        }
    }

    /** Brings a scribe down to this much ink, by passages in a book that is put on desk 5 for it. */
    static void drain(Scriptorium x, int scribe, int ink) {
        x.bind(5, 3, 40);
        while (x.scribe(scribe, 0) > ink) {
            x.copy(scribe, 5, 0, 5, 0, Math.min(40, x.scribe(scribe, 0) - ink));
        }
        x.clear(5);
    }

    void end() {
        endSentence();
        if (wrong != 0) {
            System.out.println(wrong + " answers are not as due");
            System.exit(1);
        }
    }
}
