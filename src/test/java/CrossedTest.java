/** Promises 21 to 24: LINES CROSSED, their SIDES, the GREATEST entries, and SPREAD. */
final class CrossedTest {
    private static final Check CHECK = new Check();
    private static final int[] COUNTS = {2, 5, 14, 42, 132, 429};

    public static void main(String[] args) {
        fan();
        fanInTheMiddle();
        zigzag();
        wrong();
        greatest();
        spread();
        CHECK.finish();
    }

    private static void fan() {
        DiamondRows x = new DiamondRows();
        Check.cut(x, "corners 9;0 2;0 3;0 4;0 5;0 6;0 7;");
        CHECK.due("crossed(1, 8, -1)", x.crossed(1, 8, -1), 6);
        CHECK.due("crossed(8, 1, -1)", x.crossed(8, 1, -1), 6);
        for (int k = 0; k < 6; k++) {
            CHECK.due("crossed(1, 8, " + k + ")", x.crossed(1, 8, k), 2 + k);
            CHECK.due("crossed(8, 1, " + k + ")", x.crossed(8, 1, k), 7 - k);
            CHECK.due("side(1, 8, " + k + ")", x.side(1, 8, k), k < 5 ? 1 : DiamondRows.NONE);
            CHECK.due("side(8, 1, " + k + ")", x.side(8, 1, k), k < 5 ? 0 : DiamondRows.NONE);
        }
        CHECK.due("crossed(3, 6, -1)", x.crossed(3, 6, -1), 2);
        CHECK.due("crossed(3, 6, 0)", x.crossed(3, 6, 0), 4);
        CHECK.due("crossed(3, 6, 1)", x.crossed(3, 6, 1), 5);
        CHECK.due("crossed(0, 5, -1): a LINE of the CUT", x.crossed(0, 5, -1), 0);
        CHECK.due("crossed(4, 5, -1): next to each other", x.crossed(4, 5, -1), 0);
        CHECK.due("crossed(8, 0, -1): next to each other", x.crossed(8, 0, -1), 0);
    }

    /** Here the corner that LINES have in common is now their lesser, now their greater one. */
    private static void fanInTheMiddle() {
        DiamondRows x = new DiamondRows();
        Check.cut(x, "corners 9;4 6;4 7;4 8;4 0;4 1;4 2;");
        int[] lines = {64 + 6, 64 + 7, 64 + 8, 4, 16 + 4, 32 + 4};
        for (int k = 0; k < 6; k++) {
            CHECK.due("crossed(5, 3, " + k + ")", x.crossed(5, 3, k), lines[k]);
            CHECK.due("crossed(3, 5, " + k + ")", x.crossed(3, 5, k), lines[5 - k]);
            CHECK.due("side(5, 3, " + k + ")", x.side(5, 3, k), k < 5 ? 1 : DiamondRows.NONE);
            CHECK.due("side(3, 5, " + k + ")", x.side(3, 5, k), k < 5 ? 0 : DiamondRows.NONE);
        }
    }

    private static void zigzag() {
        DiamondRows x = new DiamondRows();
        Check.cut(x, "corners 8;1 7;1 6;2 6;2 5;3 5;");
        int[] lines = {16 + 7, 16 + 6, 32 + 6, 32 + 5, 48 + 5};
        int[] sides = {0, 1, 0, 1, DiamondRows.NONE};
        int[] backSides = {0, 1, 0, 1, DiamondRows.NONE};
        CHECK.due("crossed(0, 4, -1)", x.crossed(0, 4, -1), 5);
        for (int k = 0; k < 5; k++) {
            CHECK.due("crossed(0, 4, " + k + ")", x.crossed(0, 4, k), lines[k]);
            CHECK.due("crossed(4, 0, " + k + ")", x.crossed(4, 0, k), lines[4 - k]);
            CHECK.due("side(0, 4, " + k + ")", x.side(0, 4, k), sides[k]);
            CHECK.due("side(4, 0, " + k + ")", x.side(4, 0, k), backSides[k]);
        }
    }

    private static void wrong() {
        DiamondRows x = new DiamondRows();
        x.take(5, 0);
        CHECK.due("crossed(1, 4, 2)", x.crossed(1, 4, 2), DiamondRows.NONE);
        CHECK.due("crossed(1, 4, -2)", x.crossed(1, 4, -2), DiamondRows.NONE);
        CHECK.due("crossed(0, 2, 0)", x.crossed(0, 2, 0), DiamondRows.NONE);
        CHECK.due("crossed(0, 0, -1)", x.crossed(0, 0, -1), DiamondRows.RANGE);
        CHECK.due("crossed(0, 5, -1)", x.crossed(0, 5, -1), DiamondRows.RANGE);
        CHECK.due("crossed(-1, 2, 0)", x.crossed(-1, 2, 0), DiamondRows.RANGE);
        CHECK.due("side(1, 4, 2)", x.side(1, 4, 2), DiamondRows.NONE);
        CHECK.due("side(1, 4, -1)", x.side(1, 4, -1), DiamondRows.NONE);
        CHECK.due("side(1, 2, 0)", x.side(1, 2, 0), DiamondRows.NONE);
        CHECK.due("side(1, 4, most)", x.side(1, 4, Integer.MAX_VALUE), DiamondRows.NONE);
        CHECK.due("side(3, 3, 0)", x.side(3, 3, 0), DiamondRows.RANGE);
        CHECK.due("side(3, 5, 0)", x.side(3, 5, 0), DiamondRows.RANGE);
        CHECK.due("side(-1, 3, 0)", x.side(-1, 3, 0), DiamondRows.RANGE);
    }

    private static void greatest() {
        DiamondRows x = new DiamondRows();
        int[] fibonacci = {2, 3, 5, 8, 13, 21};
        for (int n = 4; n <= 9; n++) {
            CHECK.due("greatest(" + n + ", 0)", x.greatest(n, 0), fibonacci[n - 4]);
            CHECK.due("the CUT of greatest(" + n + ", 1)", x.greatest(n, 1), firstWith(n, fibonacci[n - 4]));
            CHECK.due("greatest(" + n + ", 2)", x.greatest(n, 2), DiamondRows.RANGE);
            CHECK.due("greatest(" + n + ", -1)", x.greatest(n, -1), DiamondRows.RANGE);
        }
        CHECK.due("greatest(3, 0)", x.greatest(3, 0), DiamondRows.RANGE);
        CHECK.due("greatest(10, 0)", x.greatest(10, 0), DiamondRows.RANGE);
        CHECK.due("told(0) stays", x.told(0), 4);
    }

    private static int firstWith(int n, int v) {
        DiamondRows x = new DiamondRows();
        for (int number = 0; x.take(n, number) == number; number++) {
            for (int pair = 0; pair < n * n; pair++) {
                if (x.entry(pair / n, pair % n) == v) {
                    return number;
                }
            }
        }
        return DiamondRows.NONE;
    }

    private static void spread() {
        DiamondRows x = new DiamondRows();
        for (int n = 4; n <= 9; n++) {
            x.take(n, 0);
            for (int j = 0; j < n; j++) {
                int sum = 0;
                for (int v = 0; v <= 21; v++) {
                    sum += x.spread(0, j, v);
                }
                CHECK.due("all of spread(0, " + j + ", ..)", sum, COUNTS[n - 4]);
            }
            CHECK.due("spread(1, 1, 0)", x.spread(1, 1, 0), COUNTS[n - 4]);
            CHECK.due("spread(1, 2, 1)", x.spread(1, 2, 1), COUNTS[n - 4]);
            CHECK.due("spread(1, 2, 2)", x.spread(1, 2, 2), 0);
            CHECK.due("spread(0, 2, -1)", x.spread(0, 2, -1), 0);
            CHECK.due("spread(0, 2, most)", x.spread(0, 2, Integer.MAX_VALUE), 0);
            CHECK.due("spread(0, n, 1)", x.spread(0, n, 1), DiamondRows.RANGE);
            CHECK.due("spread(-1, 0, 1)", x.spread(-1, 0, 1), DiamondRows.RANGE);
        }
        // CUTS of six corners with the LINE of 0 and 2: those of five; with that of 0 and 3: two by two.
        x.take(6, 0);
        CHECK.due("spread(0, 2, 1)", x.spread(0, 2, 1), 5);
        CHECK.due("spread(3, 0, 1)", x.spread(3, 0, 1), 4);
    }
}
