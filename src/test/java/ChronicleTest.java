/** Promises 15 (chronicle) and 16 (count). */
final class ChronicleTest {
    private static final Checks T = new Checks();
    private static final int[] COUNTED = {13, 2, 3, 4, 1, 3, 4, 2};

    public static void main(String[] args) {
        latestFirst();
        noneTold();
        chronicleOfOtherWhat();
        count("How many passages there were (what 0);", 0);
        count("of these whole ones (1),", 1);
        count("EMPTY (2),", 2);
        count("UNLIKE (3),", 3);
        count("BEYOND (4),", 4);
        count("STOPPED (5);", 5);
        count("signs copied (6);", 6);
        count("books bound (7).", 7);
        countRefused();
        T.end();
    }

    private static void latestFirst() {
        T.sentence("Promise 15", "Of the k-th latest passage in the chronicle (0 the latest): "
            + "its scribe (what 0), desks a (1), b (2), answer (3).");
        Scriptorium x = new Scriptorium();
        x.bind(3, 3, 5);
        x.stone(4);
        x.copy(2, 3, 0, 3, 1, 4);
        x.copy(1, 4, 0, 3, 0, 1);
        x.copy(0, 3, 0, 5, 0, 1);
        int[][] told = {{0, 3, 5, -1}, {1, 4, 3, -2}, {2, 3, 3, 4}};
        for (int k = 0; k < 3; k++) {
            for (int what = 0; what < 4; what++) {
                T.due("chronicle(" + k + ", " + what + ")", x.chronicle(k, what), told[k][what]);
            }
        }
        x.bind(3, 5, 1);
        x.clear(4);
        T.due("it stays when the desks change", x.chronicle(1, 3), -2);
        wrapAround();
    }

    /** 17 and 33 passages: the oldest of 16 is the first that was not written over. */
    private static void wrapAround() {
        Scriptorium x = new Scriptorium();
        x.bind(0, 3, 1);
        for (int made = 1; made <= 33; made++) {
            x.copy(made % 3, made % 6, 0, made % 5, 0, 0);
            if (made == 1 || made == 15 || made == 16 || made == 17 || made == 32 || made == 33) {
                for (int k = 0; k < Math.min(made, 16); k++) {
                    T.due(made + " made, scribe of " + k, x.chronicle(k, 0), (made - k) % 3);
                    T.due(made + " made, a of " + k, x.chronicle(k, 1), (made - k) % 6);
                    T.due(made + " made, b of " + k, x.chronicle(k, 2), (made - k) % 5);
                    int answer = (made - k) % 30 == 0 ? 0 : Checks.EMPTY;
                    T.due(made + " made, answer of " + k, x.chronicle(k, 3), answer);
                }
            }
        }
    }

    private static void noneTold() {
        T.sentence("Promise 15", "REFUSED if there is none,");
        Scriptorium x = new Scriptorium();
        for (int made = 0; made <= 18; made++) {
            int held = Math.min(made, 16);
            for (int k : new int[] {-1, held, held + 1, 16, Checks.MIN, Checks.MAX}) {
                T.due(made + " made, chronicle(" + k + ", " + made % 4 + ")", x.chronicle(k, made % 4), Checks.REFUSED);
            }
            if (held > 0) {
                T.due(made + " made, chronicle(" + (held - 1) + ", 3)", x.chronicle(held - 1, 3), Checks.EMPTY);
            }
            x.copy(0, 0, 0, 0, 0, 0);
        }
    }

    private static void chronicleOfOtherWhat() {
        T.sentence("Promise 15", "or for another what.");
        Scriptorium x = new Scriptorium();
        x.copy(0, 0, 0, 0, 0, 0);
        for (int what : new int[] {-1, 4, 5, Checks.MIN, Checks.MAX}) {
            T.due("chronicle(0, " + what + ")", x.chronicle(0, what), Checks.REFUSED);
            T.due("chronicle(1, " + what + ")", x.chronicle(1, what), Checks.REFUSED);
            T.due("chronicle(-1, " + what + ")", x.chronicle(-1, what), Checks.REFUSED);
        }
    }

    private static void count(String words, int what) {
        T.sentence("Promise 16", words);
        Scriptorium x = new Scriptorium();
        T.due("of a new object", x.count(what), 0);
        passages(x);
        T.due("count(" + what + ")", x.count(what), COUNTED[what]);
        notCounted(x);
        T.due("after what isn't counted", x.count(what), COUNTED[what]);
        everyCounted(x);
        T.due("after 30 rounds", x.count(what), COUNTED[what] + new int[] {150, 30, 30, 30, 30, 30, 60, 30}[what]);
    }

    private static void passages(Scriptorium x) {
        x.stone(1);
        x.bind(2, 6, 5);
        x.bind(3, 7, 5);
        x.write(2, 2, Checks.PLANT, 9);
        x.copy(0, 2, 0, 3, 0, 2);
        x.copy(1, 2, 0, 3, 0, 5);
        x.copy(1, 2, 2, 3, 0, 1);
        x.copy(1, 2, 2, 3, 1, 3);
        x.copy(2, 2, 0, 3, 0, 6);
        for (int k = 0; k < 3; k++) {
            x.copy(2, 0, 0, 3, 0, 1);
        }
        for (int k = 0; k < 4; k++) {
            x.copy(2, 1, 0, 3, 0, 1);
        }
        x.order(0, 2, 0, 3, 0, 0);
        x.day();
    }

    /** What is DRY or REFUSED, an order that waits, and calls that are no passage and bind no book. */
    private static void notCounted(Scriptorium x) {
        x.copy(0, 2, 0, 3, 0, 2000);
        x.copy(0, 2, 0, 9, 0, 1);
        x.copy(9, 2, 0, 3, 0, 1);
        x.order(0, 2, 0, 3, 0, 2000);
        x.day();
        x.bind(0, 9, 1);
        x.bind(0, 3, 41);
        x.bind(6, 3, 1);
        x.share(2, 4);
        x.stone(5);
        x.clear(5);
        x.write(0, 0, 0, 1);
        x.write(1, 0, 0, 1);
        x.write(2, 9, 0, 1);
        x.write(3, 0, Checks.PLANT, 1);
        x.differ(0, 1);
        x.differ(1, 2);
    }

    /** One of each kind, 30 times: a count goes on where the chronicle's 16 end. */
    private static void everyCounted(Scriptorium x) {
        for (int k = 0; k < 30; k++) {
            x.bind(4, 3, 3);
            x.copy(k % 3, 4, 0, 4, 1, 1);
            x.copy(k % 3, 0, 0, 4, 0, 1);
            x.copy(k % 3, 1, 0, 4, 0, 1);
            x.copy(k % 3, 4, 0, 4, 0, 4);
            x.copy(k % 3, 2, 1, 3, 0, 2);
        }
    }

    private static void countRefused() {
        T.sentence("Promise 16", "REFUSED for another what.");
        Scriptorium x = new Scriptorium();
        for (int what : new int[] {-1, 8, 9, Checks.MIN, Checks.MAX}) {
            T.due("count(" + what + ")", x.count(what), Checks.REFUSED);
        }
    }
}
