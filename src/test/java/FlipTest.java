/** Promises 12 to 17: FLIPS, FEWEST FLIPS, THE WAY, and CUTS ALIKE. */
final class FlipTest {
    private static final Check CHECK = new Check();
    private static final int[] COUNTS = {2, 5, 14, 42, 132, 429};

    public static void main(String[] args) {
        flip();
        fewest();
        latestWay();
        for (int n = 4; n <= 7; n++) {
            leastWays(n);
        }
        farthest();
        alike();
        CHECK.finish();
    }

    private static void flip() {
        DiamondRows x = new DiamondRows();
        Check.cut(x, "corners 6;0 2;2 4;0 4;");
        CHECK.due("flip(4, 2)", x.flip(4, 2), 16 * 0 + 3);
        CHECK.due("row(3)", x.row(3), 2);
        CHECK.due("flip(2, 4) is no more", x.flip(2, 4), DiamondRows.NONE);
        CHECK.due("flip(0, 3)", x.flip(0, 3), 16 * 2 + 4);
        CHECK.due("flip(0, 2)", x.flip(0, 2), 16 * 1 + 4);
        CHECK.due("flip(0, 4)", x.flip(0, 4), 16 * 1 + 5);
        CHECK.due("flip(0, 0)", x.flip(0, 0), DiamondRows.NONE);
        CHECK.due("flip(0, 1)", x.flip(0, 1), DiamondRows.NONE);
        CHECK.due("flip(0, 5)", x.flip(0, 5), DiamondRows.NONE);
        CHECK.due("flip(0, 6)", x.flip(0, 6), DiamondRows.RANGE);
        CHECK.due("flip(-1, 2)", x.flip(-1, 2), DiamondRows.RANGE);
        CHECK.due("flip(least, most)", x.flip(Integer.MIN_VALUE, Integer.MAX_VALUE), DiamondRows.RANGE);
        x.see(4, 0, 2, 1);
        x.flip(1, 5);
        CHECK.due("SEEN stay", x.count(0), 1);
    }

    private static void fewest() {
        // The CUTS of five corners by numbers: 02+03, 03+13, 13+14, 02+24, 14+24; a ring by FLIPS: 0 1 2 4 3.
        DiamondRows x = new DiamondRows();
        int[] ring = {0, 1, 2, 4, 3};
        for (int a = 0; a < 5; a++) {
            for (int b = 0; b < 5; b++) {
                x.take(5, ring[a]);
                int apart = Math.min((b - a + 5) % 5, (a - b + 5) % 5);
                CHECK.due("fewest(" + ring[b] + ") from " + ring[a], x.fewest(ring[b]), apart);
                CHECK.due("passed(0)", x.passed(0), ring[a]);
                CHECK.due("passed(last)", x.passed(apart), ring[b]);
                CHECK.due("passed(beyond)", x.passed(apart + 1), DiamondRows.NONE);
                CHECK.due("passed(-1)", x.passed(-1), DiamondRows.NONE);
            }
        }
        CHECK.due("told(1) stays", x.told(1), 3);
    }

    private static void latestWay() {
        DiamondRows x = new DiamondRows();
        CHECK.due("passed(0) ahead of any", x.passed(0), DiamondRows.NONE);
        x.take(5, 0);
        x.fewest(2);
        CHECK.due("fewest(5)", x.fewest(5), DiamondRows.RANGE);
        CHECK.due("fewest(-1)", x.fewest(-1), DiamondRows.RANGE);
        x.farthest(0);
        x.take(9, 428);
        CHECK.due("passed(0) of the latest that told", x.passed(0), 0);
        CHECK.due("passed(1) of the latest that told", x.passed(1), 1);
        CHECK.due("passed(2) of the latest that told", x.passed(2), 2);
        CHECK.due("passed(3) of the latest that told", x.passed(3), DiamondRows.NONE);
        CHECK.due("fewest(428)", x.fewest(428), 0);
        CHECK.due("passed(0)", x.passed(0), 428);
        CHECK.due("passed(1)", x.passed(1), DiamondRows.NONE);
        CHECK.due("fewest(429)", x.fewest(429), DiamondRows.RANGE);
    }

    /** Each CUT passed is the least one that a FLIP comes to and that is a FLIP nearer. */
    private static void leastWays(int n) {
        DiamondRows x = new DiamondRows();
        DiamondRows y = new DiamondRows();
        for (int goal = 0; goal < COUNTS[n - 4]; goal++) {
            for (int from = 0; from < COUNTS[n - 4]; from++) {
                x.take(n, from);
                int steps = x.fewest(goal);
                for (int at = 0; at < steps; at++) {
                    int best = Integer.MAX_VALUE;
                    for (int pair = 0; pair < n * n; pair++) {
                        y.take(n, x.passed(at));
                        if (pair / n < pair % n && y.flip(pair / n, pair % n) >= 0 && y.fewest(goal) == steps - at - 1) {
                            best = Math.min(best, y.told(1));
                        }
                    }
                    CHECK.due("passed(" + (at + 1) + ") from " + from + " to " + goal, x.passed(at + 1), best);
                }
            }
        }
    }

    private static void farthest() {
        int[] widest = {1, 2, 4, 5, 7, 9};
        DiamondRows x = new DiamondRows();
        for (int n = 4; n <= 9; n++) {
            int most = 0;
            for (int number = 0; number < COUNTS[n - 4]; number += n == 9 ? 7 : 1) {
                x.take(n, number);
                most = Math.max(most, x.farthest(0));
            }
            CHECK.due("the most of farthest(0) of " + n, most, widest[n - 4]);
        }
        // From all LINES at one corner each FLIP brings at most one LINE of the goal: no goal is farther than n - 3.
        x.take(9, 0);
        CHECK.due("farthest(0)", x.farthest(0), 6);
        CHECK.due("farthest(1): all CUTS without a LINE at corner 0", x.farthest(1), 132);
        CHECK.due("farthest(2)", x.farthest(2), DiamondRows.NONE);
        CHECK.due("farthest(-1)", x.farthest(-1), DiamondRows.NONE);
    }

    private static void alike() {
        DiamondRows x = new DiamondRows();
        int[] turned = {1, 1, 4, 6, 19, 49};
        int[] mirrored = {1, 1, 3, 4, 12, 27};
        for (int n = 4; n <= 9; n++) {
            CHECK.due("kinds(" + n + ", false)", x.kinds(n, false), turned[n - 4]);
            CHECK.due("kinds(" + n + ", true)", x.kinds(n, true), mirrored[n - 4]);
        }
        CHECK.due("kinds(3, false)", x.kinds(3, false), DiamondRows.RANGE);
        CHECK.due("kinds(10, true)", x.kinds(10, true), DiamondRows.RANGE);
        CHECK.due("kinds(least, true)", x.kinds(Integer.MIN_VALUE, true), DiamondRows.RANGE);
        CHECK.due("told(0) stays", x.told(0), 4);
        Check.cut(x, "corners 6;1 3;3 5;1 5;");
        int three = x.told(1);
        Check.cut(x, "corners 6;0 2;2 4;0 4;");
        CHECK.due("least(false) of the triangle in the middle", x.least(false), Math.min(three, x.told(1)));
        // The two zigzags of six corners are alike only if one is mirrored.
        int one = leastOf(x, "corners 6;0 2;2 5;3 5;", false);
        int other = leastOf(x, "corners 6;0 4;1 4;1 3;", false);
        CHECK.holds("zigzags differ by turning", one != other);
        CHECK.due("zigzags are alike mirrored", leastOf(x, "corners 6;0 2;2 5;3 5;", true), Math.min(one, other));
        CHECK.due("zigzags are alike mirrored", leastOf(x, "corners 6;0 4;1 4;1 3;", true), Math.min(one, other));
    }

    private static int leastOf(DiamondRows x, String text, boolean mirrored) {
        Check.cut(x, text);
        return x.least(mirrored);
    }
}
