import java.io.IOException;

/** Promises 6 to 17, sentence by sentence: CUTS, their TRIANGLES, entries, WAYS, FLIPS, and CUTS ALIKE. */
final class CutEdgesTest {
    private static final int NONE = DiamondRows.NONE;
    private static final int RANGE = DiamondRows.RANGE;
    private static final int LEAST = Integer.MIN_VALUE;
    private static final int MOST = Integer.MAX_VALUE;
    private static final int[] COUNTS = {2, 5, 14, 42, 132, 429};
    private static Edges edges;

    public static void main(String[] args) throws IOException {
        edges = new Edges();
        take();
        told();
        triangle();
        entry();
        row();
        way();
        wayRefused();
        flip();
        flipRefused();
        fewest();
        passed();
        farthest();
        least();
        kinds();
        edges.finish(6, 17);
    }

    private static void take() {
        edges.says(6, "The CUT becomes that of a number, of so many corners (SEEN as by cut()): the number; RANGE.");
        DiamondRows x = new DiamondRows();
        for (int n = 4; n <= 9; n++) {
            int last = COUNTS[n - 4] - 1;
            edges.due("take(" + n + ", 0)", x.take(n, 0), 0);
            // The LINES of the first CUT are all at corner 0, those of the last one all at the last corner.
            edges.due("row(0)", x.row(0), n - 2);
            edges.due("take(" + n + ", " + last + ")", x.take(n, last), last);
            edges.due("row(" + (n - 1) + ")", x.row(n - 1), n - 2);
            for (int number : new int[] {last + 1, -1, LEAST, MOST}) {
                edges.due("take(" + n + ", " + number + ")", x.take(n, number), RANGE);
            }
            edges.due("told(0) stays", x.told(0), n);
            edges.due("told(1) stays", x.told(1), last);
        }
        for (int n : new int[] {3, 10, 0, -4, LEAST, MOST}) {
            edges.due("take(" + n + ", 0)", x.take(n, 0), RANGE);
        }
        edges.due("told(0) stays", x.told(0), 9);
        edges.due("take(4, 4): as many as five corners have", x.take(4, 4), RANGE);
        edges.says(6, "(SEEN as by cut())");
        x.take(5, 0);
        x.see(6, 0, 2, 1);
        x.right(7, 0, 2);
        x.take(5, 3);
        edges.due("count(0) with as many corners", x.count(0), 1);
        edges.due("see(6, ..) with as many corners", x.see(6, 0, 2, 1), RANGE);
        x.take(10, 0);
        x.take(6, 14);
        edges.due("count(0) behind RANGE", x.count(0), 1);
        edges.due("count(1) behind RANGE", x.count(1), 1);
        x.take(6, 13);
        edges.due("count(0)", x.count(0), 0);
        edges.due("count(1)", x.count(1), 0);
        edges.due("see(0, ..)", x.see(0, 0, 2, 1), 0);
    }

    private static void told() {
        edges.says(7, "What 0: corners of the CUT, 1: its number, 2: how many CUTS there are of as many corners, 3: numbers of the PERIOD.");
        DiamondRows x = new DiamondRows();
        Check.period(x, "2 2 2 2 2 2 2");
        for (int n = 4; n <= 9; n++) {
            x.take(n, 1);
            edges.due("told(0)", x.told(0), n);
            edges.due("told(1)", x.told(1), 1);
            edges.due("told(2)", x.told(2), COUNTS[n - 4]);
            edges.due("told(3)", x.told(3), 7);
        }
        edges.says(7, "NONE for others.");
        for (int what : new int[] {-1, 4, LEAST, MOST}) {
            edges.due("told(" + what + ")", x.told(what), NONE);
        }
    }

    private static void triangle() {
        edges.says(8, "numbered from 0 by their least, then their middle, then their greatest corner");
        DiamondRows x = new DiamondRows();
        Check.cut(x, "corners 7;1 6;1 3;3 6;3 5;");
        int[][] want = {{0, 1, 6}, {1, 2, 3}, {1, 3, 6}, {3, 4, 5}, {3, 5, 6}};
        for (int t = 0; t < 5; t++) {
            for (int which = 0; which < 3; which++) {
                edges.due("triangle(" + t + ", " + which + ")", x.triangle(t, which), want[t][which]);
            }
        }
        edges.says(8, "it has n - 2 TRIANGLES");
        for (int n = 4; n <= 9; n++) {
            x.take(n, 0);
            edges.due("triangle(" + (n - 3) + ", 0), the last one", x.triangle(n - 3, 0), 0);
            edges.due("triangle(" + (n - 3) + ", 1)", x.triangle(n - 3, 1), n - 2);
            edges.due("triangle(" + (n - 3) + ", 2)", x.triangle(n - 3, 2), n - 1);
            edges.due("triangle(" + (n - 2) + ", 0)", x.triangle(n - 2, 0), RANGE);
        }
        edges.says(8, "The corners of a TRIANGLE, which 0, 1, 2 (rising); RANGE.");
        for (int wrong : new int[] {-1, LEAST, MOST}) {
            edges.due("triangle(" + wrong + ", 0)", x.triangle(wrong, 0), RANGE);
            edges.due("triangle(0, " + wrong + ")", x.triangle(0, wrong), RANGE);
        }
        edges.due("triangle(0, 3)", x.triangle(0, 3), RANGE);
    }

    private static void entry() {
        edges.says(9, "0 for a corner and itself, 1 for corners next to each other and for the CUT's LINES");
        DiamondRows x = new DiamondRows();
        Check.cut(x, "corners 7;1 6;1 3;3 6;3 5;");
        for (int c = 0; c < 7; c++) {
            edges.due("entry(" + c + ", " + c + ")", x.entry(c, c), 0);
            edges.due("entry(" + c + ", the next one)", x.entry(c, (c + 1) % 7), 1);
            edges.due("entry(the next one, " + c + ")", x.entry((c + 1) % 7, c), 1);
        }
        edges.due("entry(1, 6)", x.entry(1, 6), 1);
        edges.due("entry(6, 3)", x.entry(6, 3), 1);
        edges.says(9, "(i, k) times (j, l) is (i, j) times (k, l) and (j, k) times (i, l)");
        // (0, 3) from 0 1 3 6: 1 + 1; (0, 5) from 0 3 5 6: 2 + 1; (2, 6) from 1 2 3 6: 1 + 1.
        edges.due("entry(0, 3)", x.entry(0, 3), 2);
        edges.due("entry(0, 5)", x.entry(0, 5), 3);
        edges.due("entry(2, 6)", x.entry(2, 6), 2);
        // (0, 2) from 0 1 2 3: (0, 2) times 1 is 1 times 1 and 1 times 2; (2, 0) from the other end.
        edges.due("entry(0, 2)", x.entry(0, 2), 3);
        edges.due("entry(2, 0)", x.entry(2, 0), 3);
        edges.says(9, "The entry of two corners; RANGE.");
        for (int wrong : new int[] {7, -1, LEAST, MOST}) {
            edges.due("entry(" + wrong + ", 0)", x.entry(wrong, 0), RANGE);
            edges.due("entry(0, " + wrong + ")", x.entry(0, wrong), RANGE);
            edges.due("entry(" + wrong + ", itself)", x.entry(wrong, wrong), RANGE);
        }
    }

    private static void row() {
        edges.says(10, "at each corner the number of TRIANGLES there");
        DiamondRows x = new DiamondRows();
        Check.cut(x, "corners 7;1 6;1 3;3 6;3 5;");
        int[] want = {1, 3, 1, 4, 1, 2, 3};
        for (int c = 0; c < 7; c++) {
            edges.due("row(" + c + ")", x.row(c), want[c]);
        }
        edges.says(10, "The CORNER ROW's number of a corner; RANGE.");
        for (int wrong : new int[] {7, 8, -1, LEAST, MOST}) {
            edges.due("row(" + wrong + ")", x.row(wrong), RANGE);
        }
        x.take(4, 0);
        edges.due("row(4), which seven corners had", x.row(4), RANGE);
    }

    private static void way() {
        edges.says(11, "for each corner strictly between them (as they follow i, up to j, the last one followed by 0) one of the TRIANGLES there, no two of them the same");
        DiamondRows x = new DiamondRows();
        // TRIANGLES of the CUT: 0 (0 1 2), 1 (0 2 4), 2 (2 3 4).
        Check.cut(x, "corners 5;0 2;2 4;");
        // From 4 to 2 by 0 and 1: 0 has TRIANGLES 0 and 1, 1 has 0 alone.
        edges.due("way(4, 2, 0, 0)", x.way(4, 2, 0, 0), 1);
        edges.due("way(4, 2, 0, 1)", x.way(4, 2, 0, 1), 0);
        edges.due("way(4, 2, 1, 0)", x.way(4, 2, 1, 0), RANGE);
        // From 3 to 1 by 4 and 0: 4 has 1 and 2, 0 has 0 and 1; not 1 and 1.
        int[][] fromThree = {{1, 0}, {2, 0}, {2, 1}};
        for (int k = 0; k < 3; k++) {
            edges.due("way(3, 1, " + k + ", 4)", x.way(3, 1, k, 4), fromThree[k][0]);
            edges.due("way(3, 1, " + k + ", 0)", x.way(3, 1, k, 0), fromThree[k][1]);
        }
        edges.says(11, "WAYS are numbered from 0 by the TRIANGLE of the first of these corners, then of the next one");
        // From 1 to 3 by 2 alone, which all have.
        for (int k = 0; k < 3; k++) {
            edges.due("way(1, 3, " + k + ", 2)", x.way(1, 3, k, 2), k);
        }
        // All round but for two corners there is one WAY, as the entry is 1.
        edges.due("way(0, 4, 0, 1)", x.way(0, 4, 0, 1), 0);
        edges.due("way(0, 4, 0, 2)", x.way(0, 4, 0, 2), 1);
        edges.due("way(0, 4, 0, 3)", x.way(0, 4, 0, 3), 2);
        for (int n = 4; n <= 9; n++) {
            // TRIANGLES t (0, t + 1, t + 2): the last corner has the last one alone, so each has the lesser of its two.
            x.take(n, 0);
            for (int corner = 2; corner < n; corner++) {
                edges.due("way(1, 0, 0, " + corner + ")", x.way(1, 0, 0, corner), corner - 2);
            }
            edges.due("way(1, 0, 1, 2)", x.way(1, 0, 1, 2), RANGE);
        }
    }

    private static void wayRefused() {
        DiamondRows x = new DiamondRows();
        Check.cut(x, "corners 5;0 2;2 4;");
        edges.says(11, "RANGE: no such corners, WAY");
        edges.due("way(1, 3, 3, 2)", x.way(1, 3, 3, 2), RANGE);
        edges.due("way(1, 3, -1, 2)", x.way(1, 3, -1, 2), RANGE);
        edges.due("way(1, 3, least, 2)", x.way(1, 3, LEAST, 2), RANGE);
        edges.due("way(1, 3, most, 2)", x.way(1, 3, MOST, 2), RANGE);
        for (int wrong : new int[] {5, -1, LEAST, MOST}) {
            edges.due("way(" + wrong + ", 3, 0, 2)", x.way(wrong, 3, 0, 2), RANGE);
            edges.due("way(1, " + wrong + ", 0, 2)", x.way(1, wrong, 0, 2), RANGE);
            edges.due("way(1, 3, 0, " + wrong + ")", x.way(1, 3, 0, wrong), RANGE);
        }
        edges.says(11, "(there are as many as the FRIEZE tells)");
        for (int corner = 0; corner < 5; corner++) {
            edges.due("way(2, 2, 0, " + corner + "): no WAY", x.way(2, 2, 0, corner), RANGE);
            edges.due("way(1, 2, 1, " + corner + "): one WAY", x.way(1, 2, 1, corner), RANGE);
        }
        edges.says(11, "NONE: the corner isn't strictly between.");
        for (int corner = 0; corner < 5; corner++) {
            edges.due("way(1, 2, 0, " + corner + ")", x.way(1, 2, 0, corner), NONE);
            edges.due("way(4, 0, 0, " + corner + ")", x.way(4, 0, 0, corner), NONE);
            edges.due("way(1, 3, 0, " + corner + ")", x.way(1, 3, 0, corner), corner == 2 ? 0 : NONE);
            boolean between = corner == 4 || corner == 0;
            edges.due("way(3, 1, 1, " + corner + ")", x.way(3, 1, 1, corner), between ? corner == 4 ? 2 : 0 : NONE);
        }
    }

    private static void flip() {
        edges.says(12, "the two TRIANGLES at it make four corners; the other two of them are its corners then");
        DiamondRows x = new DiamondRows();
        Check.cut(x, "corners 9;0 4;4 8;0 2;2 4;5 7;5 8;");
        // At 4 8 are the TRIANGLES 0 4 8 and 4 5 8.
        edges.due("flip(8, 4)", x.flip(8, 4), 5);
        edges.due("entry(0, 5)", x.entry(0, 5), 1);
        edges.due("flip(0, 5) back", x.flip(0, 5), 16 * 4 + 8);
        // At 0 4 are 0 2 4 and 0 4 8; at 5 7 are 5 6 7 and 5 7 8.
        edges.due("flip(0, 4)", x.flip(0, 4), 16 * 2 + 8);
        edges.due("flip(5, 7)", x.flip(5, 7), 16 * 6 + 8);
        DiamondRows y = new DiamondRows();
        edges.due("told(1)", x.told(1), Check.cut(y, "corners 9;2 8;4 8;0 2;2 4;6 8;5 8;"));
        y.take(4, 1);
        edges.due("flip(1, 3) of four corners", y.flip(1, 3), 2);
        edges.due("flip(2, 0) of four corners", y.flip(2, 0), 16 + 3);
        edges.due("told(1)", y.told(1), 1);
    }

    private static void flipRefused() {
        DiamondRows x = new DiamondRows();
        x.take(6, 4);
        x.see(3, 0, 2, 1);
        edges.says(12, "NONE: the CUT has no such LINE");
        edges.due("flip(0, 3), a LINE of others", x.flip(0, 3), NONE);
        edges.due("flip(0, 1), next to each other", x.flip(0, 1), NONE);
        edges.due("flip(5, 0), next to each other", x.flip(5, 0), NONE);
        edges.due("flip(2, 2), one corner", x.flip(2, 2), NONE);
        edges.says(12, "RANGE: no such corners.");
        for (int wrong : new int[] {6, -1, LEAST, MOST}) {
            edges.due("flip(0, " + wrong + ")", x.flip(0, wrong), RANGE);
            edges.due("flip(" + wrong + ", 0)", x.flip(wrong, 0), RANGE);
            edges.due("flip(" + wrong + ", itself)", x.flip(wrong, wrong), RANGE);
        }
        edges.due("told(1) stays", x.told(1), 4);
        edges.due("flip(0, 2)", x.flip(0, 2), 16 + 4);
        edges.due("told(1)", x.told(1), 5);
        edges.due("count(0): as many corners", x.count(0), 1);
    }

    private static void fewest() {
        edges.says(13, "FEWEST FLIPS to the CUT of a number; RANGE.");
        DiamondRows x = new DiamondRows();
        edges.due("fewest(0), to itself", x.fewest(0), 0);
        edges.due("fewest(1)", x.fewest(1), 1);
        for (int wrong : new int[] {2, -1, LEAST, MOST}) {
            edges.due("fewest(" + wrong + ")", x.fewest(wrong), RANGE);
        }
        for (int n = 5; n <= 9; n++) {
            x.take(n, 0);
            int last = COUNTS[n - 4] - 1;
            // Of the LINES at 0 none is at the last corner, and each FLIP can bring one of them there.
            edges.due("fewest(" + last + ")", x.fewest(last), n - 3);
            edges.due("fewest(" + (last + 1) + ")", x.fewest(last + 1), RANGE);
            edges.due("told(1) stays", x.told(1), 0);
        }
    }

    private static void passed() {
        edges.says(14, "(0: the CUT as it was then); NONE.");
        DiamondRows x = new DiamondRows();
        for (int i : new int[] {-1, 0, 1, LEAST, MOST}) {
            edges.due("passed(" + i + ") ahead of any", x.passed(i), NONE);
        }
        edges.due("fewest(0)", x.fewest(0), 0);
        edges.due("passed(0)", x.passed(0), 0);
        edges.due("passed(1)", x.passed(1), NONE);
        edges.says(14, "of the latest fewest() that told a number");
        x.take(5, 4);
        x.fewest(1);
        x.fewest(5);
        x.fewest(-1);
        x.farthest(1);
        x.flip(1, 4);
        x.take(9, 100);
        // A ring of FLIPS: 0 1 2 4 3.
        edges.due("passed(0)", x.passed(0), 4);
        edges.due("passed(1)", x.passed(1), 2);
        edges.due("passed(2)", x.passed(2), 1);
        for (int i : new int[] {3, -1, LEAST, MOST}) {
            edges.due("passed(" + i + ")", x.passed(i), NONE);
        }
        edges.says(14, "have the least numbers, the first one first");
        // From 13 14 15 to 02 04 24: 13 goes first (to 24, number 6) or 15 (to 04, number 2): then 13 or 14 .. .
        x.take(6, 3);
        edges.due("fewest(4)", x.fewest(4), 3);
        edges.due("passed(1)", x.passed(1), 2);
        edges.due("passed(2)", x.passed(2), 5);
        edges.due("passed(3)", x.passed(3), 4);
    }

    private static void farthest() {
        edges.says(15, "The most FEWEST FLIPS to any CUT, what 0; to how many CUTS they are as many, what 1");
        DiamondRows x = new DiamondRows();
        edges.due("farthest(0) of four corners", x.farthest(0), 1);
        edges.due("farthest(1) of four corners", x.farthest(1), 1);
        x.take(4, 1);
        edges.due("farthest(0) of the other one", x.farthest(0), 1);
        edges.due("farthest(1) of the other one", x.farthest(1), 1);
        for (int number = 0; number < 5; number++) {
            x.take(5, number);
            edges.due("farthest(0) of five corners", x.farthest(0), 2);
            edges.due("farthest(1) of five corners", x.farthest(1), 2);
        }
        for (int n = 6; n <= 9; n++) {
            // Each FLIP brings at most one LINE more away from corner 0, and one always can: so all CUTS without
            // a LINE there (as many as n - 1 corners have CUTS) are the farthest.
            x.take(n, 0);
            edges.due("farthest(0) of " + n, x.farthest(0), n - 3);
            edges.due("farthest(1) of " + n, x.farthest(1), COUNTS[n - 5]);
        }
        edges.says(15, "NONE for another what.");
        for (int what : new int[] {2, -1, LEAST, MOST}) {
            edges.due("farthest(" + what + ")", x.farthest(what), NONE);
        }
    }

    private static void least() {
        edges.says(16, "The least number of the CUTS ALIKE to the CUT.");
        DiamondRows x = new DiamondRows();
        for (int number = 0; number < 2; number++) {
            x.take(4, number);
            edges.due("least(false) of four corners", x.least(false), 0);
            edges.due("least(true) of four corners", x.least(true), 0);
        }
        for (int number = 0; number < 5; number++) {
            x.take(5, number);
            edges.due("least(false) of five corners", x.least(false), 0);
            edges.due("least(true) of five corners", x.least(true), 0);
            edges.due("told(1) stays", x.told(1), number);
        }
        edges.says(16, "(MIRRORED: also by telling corner c as n - 1 - c)");
        // Six corners: all LINES at one corner (0 3 7 10 5 13), two zigzags, the triangles in the middle (4 11).
        int[] turned = {0, 1, 2, 0, 4, 0, 1, 0, 2, 2, 0, 4, 1, 0};
        int[] mirrored = {0, 1, 1, 0, 4, 0, 1, 0, 1, 1, 0, 4, 1, 0};
        for (int number = 0; number < 14; number++) {
            x.take(6, number);
            edges.due("least(false) of " + number, x.least(false), turned[number]);
            edges.due("least(true) of " + number, x.least(true), mirrored[number]);
        }
    }

    private static void kinds() {
        edges.says(17, "How many CUTS of so many corners there are, those ALIKE counted once; RANGE.");
        DiamondRows x = new DiamondRows();
        int[] turned = {1, 1, 4, 6, 19, 49};
        int[] mirrored = {1, 1, 3, 4, 12, 27};
        for (int n = 4; n <= 9; n++) {
            edges.due("kinds(" + n + ", false)", x.kinds(n, false), turned[n - 4]);
            edges.due("kinds(" + n + ", true)", x.kinds(n, true), mirrored[n - 4]);
        }
        for (int n : new int[] {3, 10, 0, -1, LEAST, MOST}) {
            edges.due("kinds(" + n + ", false)", x.kinds(n, false), RANGE);
            edges.due("kinds(" + n + ", true)", x.kinds(n, true), RANGE);
        }
        edges.due("told(0) stays", x.told(0), 4);
    }
}
