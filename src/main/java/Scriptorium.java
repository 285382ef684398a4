/**
 * A house of scribes: desks with books of unlike scripts, passages that are copied from book to
 * book as far as they get, ink that is used by what was written, orders that wait, and a chronicle
 * of how each passage went.
 */
public final class Scriptorium {

    private static final int EMPTY = -1;
    private static final int UNLIKE = -2;
    private static final int BEYOND = -3;
    private static final int STOPPED = -10;
    private static final int DRY = -50;
    private static final int NONE = -60;
    private static final int REFUSED = -99;

    private static final int DESKS = 6;
    private static final int SCRIBES = 3;
    private static final int LONGEST_BOOK = 40;
    private static final int FIRST_INK = 100;
    private static final int MOST_INK = 1000;
    private static final int MOST_ORDERS = 8;
    private static final int CHRONICLE_LENGTH = 16;

    private static final int MARKS = 0;
    private static final int LETTERS = 1;
    private static final int NOTES = 2;
    private static final int COUNTS = 3;
    private static final int LIGHTS = 5;
    private static final int PICTURES = 6;
    private static final int BEASTS_ALONE = 7;
    private static final int PLANTS_ALONE = 8;

    private static final int BARE = 0;
    private static final int BEAST = 1;
    private static final int PLANT = 2;

    // The places of the tallies are the 'what' that count is asked.
    private static final int PASSAGES_TALLY = 0;
    private static final int WHOLE_TALLY = 1;
    private static final int EMPTY_TALLY = 2;
    private static final int UNLIKE_TALLY = 3;
    private static final int BEYOND_TALLY = 4;
    private static final int STOPPED_TALLY = 5;
    private static final int SIGNS_TALLY = 6;
    private static final int BOOKS_TALLY = 7;
    private static final int TALLIES = 8;

    private final Book nothing;
    private final Book rock;
    private final Book[] desks;
    private final Scribe[] scribes;
    private final Chronicle latest;
    private final int[] tallies;

    public Scriptorium() {
        nothing = new Book(EMPTY, 0);
        rock = new Book(UNLIKE, 0);
        desks = new Book[DESKS];
        for (int d = 0; d < DESKS; d++) {
            desks[d] = nothing;
        }
        scribes = new Scribe[SCRIBES];
        for (int s = 0; s < SCRIBES; s++) {
            scribes[s] = new Scribe();
        }
        latest = new Chronicle();
        tallies = new int[TALLIES];
    }

    public int bind(int desk, int script, int size) {
        if (!isDesk(desk) || script < MARKS || script > PLANTS_ALONE) {
            return REFUSED;
        }
        if (size < 0 || size > LONGEST_BOOK) {
            return REFUSED;
        }
        tallies[BOOKS_TALLY]++;
        return lay(desk, new Book(script, size));
    }

    public int stone(int desk) {
        return lay(desk, rock);
    }

    public int share(int a, int b) {
        return isDesk(a) ? lay(b, desks[a]) : REFUSED;
    }

    public int clear(int desk) {
        return lay(desk, nothing);
    }

    public int write(int desk, int place, int sort, long v) {
        if (!isDesk(desk)) {
            return REFUSED;
        }
        Book book = desks[desk];
        if (book.hasPictures() && (sort < BARE || sort > PLANT)) {
            return REFUSED;
        }
        if (book.isNoBook()) {
            return book.script;
        }
        if (!book.hasPlace(place)) {
            return BEYOND;
        }
        if (book.hasPictures()) {
            return book.paint(place, sort, v) ? 0 : STOPPED;
        }
        book.values[place] = book.cut(v);
        return 0;
    }

    public int copy(int scribe, int a, int i, int b, int j, int n) {
        return perform(new Passage(scribe, a, i, b, j, n));
    }

    public int order(int scribe, int a, int i, int b, int j, int n) {
        Passage passage = new Passage(scribe, a, i, b, j, n);
        return isPossible(passage) ? scribes[scribe].addOrder(passage) : REFUSED;
    }

    public int day() {
        int done = 0;
        for (int s = 0; s < SCRIBES; s++) {
            Passage first = scribes[s].firstOrder();
            if (first != null && perform(first) != DRY) {
                scribes[s].dropFirstOrder();
                done++;
            }
        }
        return done;
    }

    public int fill(int scribe, int n) {
        if (!isScribe(scribe) || n < 0 || n > MOST_INK) {
            return REFUSED;
        }
        scribes[scribe].ink = Math.min(MOST_INK, scribes[scribe].ink + n);
        return scribes[scribe].ink;
    }

    public int scribe(int scribe, int what) {
        if (!isScribe(scribe)) {
            return REFUSED;
        }
        switch (what) {
            case 0:
                return scribes[scribe].ink;
            case 1:
                return scribes[scribe].waiting;
            case 2:
                return scribes[scribe].copied;
            default:
                return REFUSED;
        }
    }

    public long sign(int desk, int place) throws IllegalStateException, IndexOutOfBoundsException {
        if (!isDesk(desk) || desks[desk].isNoBook()) {
            throw new IllegalStateException("no book lies there");
        }
        if (!desks[desk].hasPlace(place)) {
            throw new IndexOutOfBoundsException("no such place");
        }
        return desks[desk].signAt(place);
    }

    public int book(int desk, int what) {
        if (!isDesk(desk) || what < 0 || what > 1) {
            return REFUSED;
        }
        Book book = desks[desk];
        return what == 0 || book.isNoBook() ? book.script : book.length();
    }

    public int differ(int a, int b) {
        if (!isDesk(a) || !isDesk(b)) {
            return REFUSED;
        }
        int hindrance = hindranceBetween(desks[a], desks[b]);
        return hindrance != 0 ? hindrance : firstDifference(desks[a], desks[b]);
    }

    public int chronicle(int k, int what) {
        if (!latest.has(k)) {
            return REFUSED;
        }
        int row = latest.rowOf(k);
        switch (what) {
            case 0:
                return latest.scribeNumbers[row];
            case 1:
                return latest.sources[row];
            case 2:
                return latest.targets[row];
            case 3:
                return latest.answers[row];
            default:
                return REFUSED;
        }
    }

    public int count(int what) {
        return what >= 0 && what < TALLIES ? tallies[what] : REFUSED;
    }

    private static boolean isDesk(int desk) {
        return desk >= 0 && desk < DESKS;
    }

    private static boolean isScribe(int scribe) {
        return scribe >= 0 && scribe < SCRIBES;
    }

    private static boolean isPossible(Passage p) {
        return isScribe(p.scribe) && isDesk(p.a) && isDesk(p.b);
    }

    private int lay(int desk, Book book) {
        if (!isDesk(desk)) {
            return REFUSED;
        }
        desks[desk] = book;
        return 0;
    }

    /** A passage's answer, DRY or REFUSED; an order comes here too, with the desks as they are then. */
    private int perform(Passage p) {
        if (!isPossible(p)) {
            return REFUSED;
        }
        Scribe scribe = scribes[p.scribe];
        if (scribe.ink < p.n) {
            return DRY;
        }
        int answer = transcribe(p, desks[p.a], desks[p.b]);
        int signs = signsCopied(answer);
        scribe.use(signs);
        tallies[PASSAGES_TALLY]++;
        tallies[tallyOf(answer)]++;
        tallies[SIGNS_TALLY] += signs;
        latest.add(p, answer);
        return answer;
    }

    private static int transcribe(Passage p, Book source, Book target) {
        int hindrance = hindranceBetween(source, target);
        if (hindrance != 0) {
            return hindrance;
        }
        if (!source.hasRun(p.i, p.n) || !target.hasRun(p.j, p.n)) {
            return BEYOND;
        }
        int fitting = target.fittingOf(source, p.i, p.n);
        target.take(source, p.i, p.j, fitting);
        return fitting < p.n ? STOPPED - fitting : p.n;
    }

    /** EMPTY or UNLIKE, the first that is so of two desks' books; 0 if neither is. */
    private static int hindranceBetween(Book one, Book other) {
        if (one.script == EMPTY || other.script == EMPTY) {
            return EMPTY;
        }
        return one.isAlike(other) ? 0 : UNLIKE;
    }

    private static int firstDifference(Book one, Book other) {
        int shorter = Math.min(one.length(), other.length());
        for (int p = 0; p < shorter; p++) {
            if (one.values[p] != other.values[p] || one.sorts[p] != other.sorts[p]) {
                return p;
            }
        }
        return one.length() == other.length() ? NONE : shorter;
    }

    private static int signsCopied(int answer) {
        if (answer >= 0) {
            return answer;
        }
        return answer <= STOPPED ? STOPPED - answer : 0;
    }

    private static int tallyOf(int answer) {
        switch (answer) {
            case EMPTY:
                return EMPTY_TALLY;
            case UNLIKE:
                return UNLIKE_TALLY;
            case BEYOND:
                return BEYOND_TALLY;
            default:
                return answer >= 0 ? WHOLE_TALLY : STOPPED_TALLY;
        }
    }

    /**
     * What lies on a desk. Nothing and a stone are held as books without a place, whose script is
     * the answer that they give (EMPTY, UNLIKE), so that no desk ever holds a null.
     */
    private static final class Book {
        final int script;
        final long[] values;
        // BARE throughout where no pictures stand, so that all books copy and compare in one way.
        final int[] sorts;

        Book(int script, int size) {
            this.script = script;
            values = new long[size];
            sorts = new int[size];
        }

        int length() {
            return values.length;
        }

        boolean isNoBook() {
            return script < 0;
        }

        boolean hasPictures() {
            return script >= PICTURES;
        }

        boolean isAlike(Book other) {
            // Two stones bear one script, but a stone is like nothing.
            return !isNoBook() && (script == other.script || (hasPictures() && other.hasPictures()));
        }

        boolean hasPlace(int place) {
            return place >= 0 && place < values.length;
        }

        /** Asked by a difference, since place + n may pass the greatest int. */
        boolean hasRun(int place, int n) {
            return place >= 0 && n >= 0 && place <= values.length - n;
        }

        boolean admits(int sort) {
            if (script == BEASTS_ALONE) {
                return sort != PLANT;
            }
            return script != PLANTS_ALONE || sort != BEAST;
        }

        long cut(long v) {
            switch (script) {
                case MARKS:
                    return (byte) v;
                case LETTERS:
                    return (char) v;
                case NOTES:
                    return (short) v;
                case COUNTS:
                    return (int) v;
                case LIGHTS:
                    return v & 1L;
                default:
                    return v;
            }
        }

        /** A BARE place keeps no number, so that it is 0 as a sign and two of them never differ. */
        boolean paint(int place, int sort, long v) {
            if (!admits(sort)) {
                return false;
            }
            sorts[place] = sort;
            values[place] = sort == BARE ? 0L : (int) v;
            return true;
        }

        long signAt(int place) {
            return hasPictures() ? 4L * values[place] + sorts[place] : values[place];
        }

        /** How many of n signs, from the first on, may stand in this book. */
        int fittingOf(Book source, int from, int n) {
            for (int k = 0; k < n; k++) {
                if (!admits(source.sorts[from + k])) {
                    return k;
                }
            }
            return n;
        }

        /** arraycopy reads all before it writes, which a passage within one book needs. */
        void take(Book source, int from, int to, int n) {
            System.arraycopy(source.values, from, values, to, n);
            System.arraycopy(source.sorts, from, sorts, to, n);
        }
    }

    private static final class Passage {
        final int scribe;
        final int a;
        final int i;
        final int b;
        final int j;
        final int n;

        Passage(int scribe, int a, int i, int b, int j, int n) {
            this.scribe = scribe;
            this.a = a;
            this.i = i;
            this.b = b;
            this.j = j;
            this.n = n;
        }
    }

    private static final class Scribe {
        int ink;
        int copied;
        int waiting;
        final Passage[] orders;

        Scribe() {
            ink = FIRST_INK;
            orders = new Passage[MOST_ORDERS];
        }

        void use(int signs) {
            ink -= signs;
            copied += signs;
        }

        int addOrder(Passage passage) {
            if (waiting >= MOST_ORDERS) {
                return REFUSED;
            }
            orders[waiting] = passage;
            waiting++;
            return waiting;
        }

        Passage firstOrder() {
            return waiting > 0 ? orders[0] : null;
        }

        void dropFirstOrder() {
            for (int k = 1; k < waiting; k++) {
                orders[k - 1] = orders[k];
            }
            if (waiting > 0) {
                waiting--;
                orders[waiting] = null;
            }
        }
    }

    /** A ring of rows: the next passage is written over the oldest one. */
    private static final class Chronicle {
        final int[] scribeNumbers;
        final int[] sources;
        final int[] targets;
        final int[] answers;
        int next;
        int held;

        Chronicle() {
            scribeNumbers = new int[CHRONICLE_LENGTH];
            sources = new int[CHRONICLE_LENGTH];
            targets = new int[CHRONICLE_LENGTH];
            answers = new int[CHRONICLE_LENGTH];
        }

        boolean has(int k) {
            return k >= 0 && k < held;
        }

        int rowOf(int k) {
            return Math.floorMod(next - 1 - k, CHRONICLE_LENGTH);
        }

        void add(Passage p, int answer) {
            scribeNumbers[next] = p.scribe;
            sources[next] = p.a;
            targets[next] = p.b;
            answers[next] = answer;
            next = (next + 1) % CHRONICLE_LENGTH;
            held = Math.min(CHRONICLE_LENGTH, held + 1);
        }
    }
}
