/** Promises 6 to 11: CUTS by their numbers, TRIANGLES, entries, CORNER ROWS and WAYS. */
final class CutTest {
    private static final Check CHECK = new Check();
    private static final int[] COUNTS = {2, 5, 14, 42, 132, 429};

    public static void main(String[] args) {
        take();
        told();
        triangles();
        entries();
        for (int n = 4; n <= 9; n++) {
            diamonds(n);
        }
        ways();
        for (int n = 4; n <= 7; n++) {
            allWays(n);
        }
        CHECK.finish();
    }

    private static void take() {
        DiamondRows x = new DiamondRows();
        for (int n = 4; n <= 9; n++) {
            int count = COUNTS[n - 4];
            CHECK.due("take(" + n + ", last)", x.take(n, count - 1), count - 1);
            CHECK.due("told(0)", x.told(0), n);
            CHECK.due("told(1)", x.told(1), count - 1);
            CHECK.due("told(2)", x.told(2), count);
            CHECK.due("take(" + n + ", too much)", x.take(n, count), DiamondRows.RANGE);
            CHECK.due("take(" + n + ", -1)", x.take(n, -1), DiamondRows.RANGE);
            CHECK.due("told(1) stays", x.told(1), count - 1);
        }
        CHECK.due("take(3, 0)", x.take(3, 0), DiamondRows.RANGE);
        CHECK.due("take(10, 0)", x.take(10, 0), DiamondRows.RANGE);
        CHECK.due("take(-1, 0)", x.take(-1, 0), DiamondRows.RANGE);
        CHECK.due("take(least, 0)", x.take(Integer.MIN_VALUE, 0), DiamondRows.RANGE);
        CHECK.due("take(most, 0)", x.take(Integer.MAX_VALUE, 0), DiamondRows.RANGE);
        x.take(5, 0);
        x.see(3, 0, 2, 1);
        x.take(5, 4);
        CHECK.due("SEEN stay", x.count(0), 1);
        x.take(10, 0);
        CHECK.due("SEEN stay with RANGE", x.count(0), 1);
        x.take(6, 0);
        CHECK.due("SEEN go", x.count(0), 0);
        CHECK.due("the latest STEP is 0", x.see(0, 0, 2, 1), 0);
    }

    private static void told() {
        DiamondRows x = new DiamondRows();
        CHECK.due("told(-1)", x.told(-1), DiamondRows.NONE);
        CHECK.due("told(4)", x.told(4), DiamondRows.NONE);
        Check.period(x, "2 2 2");
        CHECK.due("told(3)", x.told(3), 3);
    }

    private static void triangles() {
        DiamondRows x = new DiamondRows();
        Check.cut(x, "corners 6;0 2;2 4;0 4;");
        int[][] want = {{0, 1, 2}, {0, 2, 4}, {0, 4, 5}, {2, 3, 4}};
        for (int t = 0; t < 4; t++) {
            for (int which = 0; which < 3; which++) {
                CHECK.due("triangle(" + t + ", " + which + ")", x.triangle(t, which), want[t][which]);
            }
        }
        CHECK.due("triangle(4, 0)", x.triangle(4, 0), DiamondRows.RANGE);
        CHECK.due("triangle(-1, 0)", x.triangle(-1, 0), DiamondRows.RANGE);
        CHECK.due("triangle(0, 3)", x.triangle(0, 3), DiamondRows.RANGE);
        CHECK.due("triangle(0, -1)", x.triangle(0, -1), DiamondRows.RANGE);
    }

    private static void entries() {
        DiamondRows x = new DiamondRows();
        Check.cut(x, "corners 6;0 2;2 4;0 4;");
        int[] row = {3, 1, 3, 1, 3, 1};
        int[] fromOne = {1, 0, 1, 3, 2, 3};
        for (int i = 0; i < 6; i++) {
            CHECK.due("row(" + i + ")", x.row(i), row[i]);
            CHECK.due("entry(1, " + i + ")", x.entry(1, i), fromOne[i]);
            CHECK.due("entry(" + i + ", 1)", x.entry(i, 1), fromOne[i]);
        }
        CHECK.due("row(6)", x.row(6), DiamondRows.RANGE);
        CHECK.due("row(-1)", x.row(-1), DiamondRows.RANGE);
        CHECK.due("entry(6, 0)", x.entry(6, 0), DiamondRows.RANGE);
        CHECK.due("entry(0, 6)", x.entry(0, 6), DiamondRows.RANGE);
        CHECK.due("entry(-1, 0)", x.entry(-1, 0), DiamondRows.RANGE);
        CHECK.due("entry(0, -1)", x.entry(0, -1), DiamondRows.RANGE);
        CHECK.due("entry(6, 6)", x.entry(6, 6), DiamondRows.RANGE);
    }

    /** The FRIEZE as the document tells it: the rule of any four corners, for all CUTS. */
    private static void diamonds(int n) {
        DiamondRows x = new DiamondRows();
        for (int number = 0; number < COUNTS[n - 4]; number++) {
            x.take(n, number);
            int ones = 0;
            for (int i = 0; i < n; i++) {
                CHECK.due("a corner and itself", x.entry(i, i), 0);
                CHECK.due("corners next to each other", x.entry(i, (i + 1) % n), 1);
                CHECK.due("the CORNER ROW", x.entry((i + n - 1) % n, (i + 1) % n), x.row(i));
                for (int j = i + 1; j < n; j++) {
                    ones += x.entry(i, j) == 1 ? 1 : 0;
                    for (int k = j + 1; k < n; k++) {
                        for (int l = k + 1; l < n; l++) {
                            CHECK.due("CUT " + number + ": four corners", x.entry(i, k) * x.entry(j, l),
                                x.entry(i, j) * x.entry(k, l) + x.entry(j, k) * x.entry(i, l));
                        }
                    }
                }
            }
            CHECK.due("CUT " + number + ": LINES and sides", ones, n + n - 3);
        }
    }

    private static void ways() {
        DiamondRows x = new DiamondRows();
        Check.cut(x, "corners 5;0 2;0 3;");
        // TRIANGLES: 0 (0 1 2), 1 (0 2 3), 2 (0 3 4). From 1 to 4: corner 2 has 0, 1; corner 3 has 1, 2.
        int[][] want = {{0, 1}, {0, 2}, {1, 2}};
        for (int k = 0; k < 3; k++) {
            CHECK.due("way(1, 4, " + k + ", 2)", x.way(1, 4, k, 2), want[k][0]);
            CHECK.due("way(1, 4, " + k + ", 3)", x.way(1, 4, k, 3), want[k][1]);
        }
        // The other way round there is corner 0 alone.
        for (int k = 0; k < 3; k++) {
            CHECK.due("way(4, 1, " + k + ", 0)", x.way(4, 1, k, 0), k);
        }
        CHECK.due("way(1, 4, 3, 2)", x.way(1, 4, 3, 2), DiamondRows.RANGE);
        CHECK.due("way(1, 4, -1, 2)", x.way(1, 4, -1, 2), DiamondRows.RANGE);
        CHECK.due("way(1, 4, 0, 1)", x.way(1, 4, 0, 1), DiamondRows.NONE);
        CHECK.due("way(1, 4, 0, 4)", x.way(1, 4, 0, 4), DiamondRows.NONE);
        CHECK.due("way(1, 4, 0, 0)", x.way(1, 4, 0, 0), DiamondRows.NONE);
        CHECK.due("way(1, 4, 3, 0)", x.way(1, 4, 3, 0), DiamondRows.RANGE);
        CHECK.due("way(1, 4, 0, 5)", x.way(1, 4, 0, 5), DiamondRows.RANGE);
        CHECK.due("way(1, 4, 0, -1)", x.way(1, 4, 0, -1), DiamondRows.RANGE);
        CHECK.due("way(5, 4, 0, 2)", x.way(5, 4, 0, 2), DiamondRows.RANGE);
        CHECK.due("way(1, -1, 0, 2)", x.way(1, -1, 0, 2), DiamondRows.RANGE);
        CHECK.due("way(2, 2, 0, 3)", x.way(2, 2, 0, 3), DiamondRows.RANGE);
        CHECK.due("way(2, 3, 0, 4)", x.way(2, 3, 0, 4), DiamondRows.NONE);
        CHECK.due("way(2, 3, 1, 4)", x.way(2, 3, 1, 4), DiamondRows.RANGE);
        // All the way round there is one way, by all TRIANGLES: 3 has 1 or 2, 4 has 2 alone, 1 has 0 alone.
        CHECK.due("way(2, 1, 0, 3)", x.way(2, 1, 0, 3), 1);
        CHECK.due("way(2, 1, 0, 4)", x.way(2, 1, 0, 4), 2);
        CHECK.due("way(2, 1, 0, 0)", x.way(2, 1, 0, 0), 0);
        CHECK.due("way(2, 1, 1, 0)", x.way(2, 1, 1, 0), DiamondRows.RANGE);
    }

    /** WAYS have TRIANGLES at their corners, no two the same, and rise. */
    private static void allWays(int n) {
        DiamondRows x = new DiamondRows();
        for (int number = 0; number < COUNTS[n - 4]; number++) {
            x.take(n, number);
            for (int pair = 0; pair < n * n; pair++) {
                int i = pair / n;
                int j = pair % n;
                String before = "";
                for (int k = 0; k < x.entry(i, j); k++) {
                    String way = "";
                    for (int c = (i + 1) % n; c != j; c = (c + 1) % n) {
                        int t = x.way(i, j, k, c);
                        boolean there = x.triangle(t, 0) == c || x.triangle(t, 1) == c || x.triangle(t, 2) == c;
                        CHECK.holds("the TRIANGLE is at the corner", there);
                        CHECK.holds("the TRIANGLE is new", way.indexOf('0' + t) < 0);
                        way += t;
                    }
                    CHECK.holds("WAYS rise", k == 0 || before.compareTo(way) < 0);
                    before = way;
                }
            }
        }
    }
}
