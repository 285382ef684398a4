/** Promises 15 (chronicle) and 16 (count). */
final class ChronicleTest {
    private static final Checks T = new Checks();

    public static void main(String[] args) {
        latestFirst();
        sixteenAtMost();
        whatIsToldStays();
        chronicleRefused();
        count();
        countRefused();
        T.end();
    }

    private static void latestFirst() {
        Scriptorium x = new Scriptorium();
        x.bind(3, 3, 5);
        x.stone(4);
        T.due("whole", x.copy(2, 3, 0, 3, 1, 4), 4);
        T.due("unlike", x.copy(1, 4, 0, 3, 0, 1), Checks.UNLIKE);
        T.due("empty", x.copy(0, 3, 0, 5, 0, 1), Checks.EMPTY);
        int[][] told = {{0, 3, 5, -1}, {1, 4, 3, -2}, {2, 3, 3, 4}};
        for (int k = 0; k < 3; k++) {
            for (int what = 0; what < 4; what++) {
                T.due("chronicle(" + k + ", " + what + ")", x.chronicle(k, what), told[k][what]);
            }
        }
        T.due("chronicle(3, 0)", x.chronicle(3, 0), Checks.REFUSED);
    }

    private static void sixteenAtMost() {
        Scriptorium x = new Scriptorium();
        x.bind(0, 3, 40);
        for (int made = 1; made <= 50; made++) {
            x.fill(made % 3, 1000);
            x.copy(made % 3, 0, 0, 0, 0, made % 41);
            int held = Math.min(made, 16);
            for (int k : new int[] {0, held - 1}) {
                T.due(made + " made, chronicle(" + k + ", 0)", x.chronicle(k, 0), (made - k) % 3);
                T.due(made + " made, chronicle(" + k + ", 3)", x.chronicle(k, 3), (made - k) % 41);
            }
            T.due(made + " made, chronicle(" + held + ", 0)", x.chronicle(held, 0), Checks.REFUSED);
        }
        for (int k = 0; k < 16; k++) {
            T.due("50 made, chronicle(" + k + ", 3)", x.chronicle(k, 3), (50 - k) % 41);
        }
        T.due("passages", x.count(0), 50);
    }

    private static void whatIsToldStays() {
        Scriptorium x = new Scriptorium();
        x.bind(0, 3, 3);
        x.copy(1, 0, 0, 0, 1, 2);
        x.clear(0);
        x.copy(3, 0, 0, 0, 0, 1);
        x.copy(0, 0, 0, 6, 0, 1);
        x.copy(0, 0, 0, 0, 0, 101);
        x.write(0, 0, 0, 1);
        x.order(0, 0, 0, 0, 0, 1);
        T.due("the scribe that is told", x.chronicle(0, 0), 1);
        T.due("the answer that is told", x.chronicle(0, 3), 2);
        T.due("the only one", x.chronicle(1, 3), Checks.REFUSED);
    }

    private static void chronicleRefused() {
        Scriptorium x = new Scriptorium();
        x.bind(0, 3, 3);
        for (int k = 0; k < 20; k++) {
            x.copy(0, 0, 0, 0, 0, 0);
        }
        for (int k : new int[] {-1, 16, 17, Integer.MIN_VALUE, Integer.MAX_VALUE}) {
            for (int what = 0; what < 4; what++) {
                T.due("chronicle(" + k + ", " + what + ")", x.chronicle(k, what), Checks.REFUSED);
            }
        }
        for (int what : new int[] {-1, 4, 5, Integer.MIN_VALUE, Integer.MAX_VALUE}) {
            T.due("chronicle(0, " + what + ")", x.chronicle(0, what), Checks.REFUSED);
        }
        T.due("chronicle(15, 3)", x.chronicle(15, 3), 0);
    }

    private static void count() {
        Scriptorium x = new Scriptorium();
        x.stone(1);
        x.bind(2, 6, 5);
        x.bind(3, 7, 5);
        x.write(2, 2, 2, 9);
        x.copy(0, 2, 0, 3, 0, 2);
        x.copy(1, 2, 0, 3, 0, 5);
        x.copy(1, 2, 2, 3, 0, 1);
        x.copy(2, 2, 0, 3, 0, 6);
        for (int k = 0; k < 3; k++) {
            x.copy(2, 0, 0, 3, 0, 1);
        }
        for (int k = 0; k < 5; k++) {
            x.copy(2, 1, 0, 3, 0, 1);
        }
        x.copy(0, 2, 0, 3, 0, 2000);
        x.copy(0, 2, 0, 9, 0, 1);
        x.order(0, 2, 0, 3, 0, 0);
        x.day();
        int[] want = {13, 2, 3, 5, 1, 2, 4, 2};
        for (int what = 0; what < 8; what++) {
            T.due("count(" + what + ")", x.count(what), want[what]);
        }
    }

    private static void countRefused() {
        Scriptorium x = new Scriptorium();
        for (int what : new int[] {-1, 8, 9, Integer.MIN_VALUE, Integer.MAX_VALUE}) {
            T.due("count(" + what + ")", x.count(what), Checks.REFUSED);
        }
    }
}
