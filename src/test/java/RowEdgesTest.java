import java.io.IOException;

/** Promises 18 to 24, sentence by sentence: CORNER ROWS read and MENDED, LINES CROSSED, GREATEST and SPREAD. */
final class RowEdgesTest {
    private static final int NONE = DiamondRows.NONE;
    private static final int RANGE = DiamondRows.RANGE;
    private static final int LEAST = Integer.MIN_VALUE;
    private static final int MOST = Integer.MAX_VALUE;
    private static final int[] COUNTS = {2, 5, 14, 42, 132, 429};
    /** No rows of five numbers. */
    private static final String[] NO_ROWS = {"", " \n", "3 1 2 2", "3 1 2 2 1 1", "3 1 2 2 1;", "3 1;2 2 1", "3 1 2 2 x",
        "corners 5;0 2;0 3;", "3 1 2 2 0001", "3 1 2 2 1000", "3 1 2 2 -1", "3,1,2,2,1", "3\t1 2 2 1", "31221",
        "3 1 2 2 1 1 1 1 1 1 1 1", "3 1 2 2 1 ?", "?3 1 2 2 1"};
    private static Edges edges;

    public static void main(String[] args) throws IOException {
        edges = new Edges();
        read();
        readRefused();
        mend();
        mendRefused();
        mended();
        crossed();
        crossedRefused();
        side();
        greatest();
        spread();
        edges.finish(18, 24);
    }

    private static void read() {
        edges.says(18, "the CUT that has this CORNER ROW becomes the CUT: its number");
        String[] rows = {"3 1 2 2 1", "2 2 1 3 1", "1 3 1 2 2", "2 1 3 1 2", "1 2 2 1 3"};
        DiamondRows x = new DiamondRows();
        x.take(5, 0);
        x.see(8, 0, 2, 1);
        for (int number = 4; number >= 0; number--) {
            edges.due("read() of " + rows[number], Check.read(x, rows[number]), number);
            edges.due("told(1)", x.told(1), number);
        }
        edges.due("count(0): as many corners", x.count(0), 1);
        edges.due("see(7, ..): as many corners", x.see(7, 0, 2, 1), RANGE);
        edges.says(18, "TOKENS with any blanks (32, 10) between");
        edges.due("read() of blanks", Check.read(x, "\n\n1  3\n1 2 \n2\n "), 2);
        edges.due("read() of noughts ahead", Check.read(x, "002 01 003 1 2"), 3);
        edges.due("read() of 300 bytes", Check.read(x, " ".repeat(291) + "1 2 2 1 3"), 4);
        x.take(4, 1);
        edges.due("read() of four", Check.read(x, "2 1 2 1"), 0);
        x.take(9, 3);
        edges.due("read() of nine", Check.read(x, "1 2 2 2 2 2 2 1 7"), 428);
    }

    private static void readRefused() {
        DiamondRows x = new DiamondRows();
        x.take(5, 3);
        edges.says(18, "NONE: there is none");
        String[] none = {"2 2 2 2 2", "1 1 1 1 1", "0 0 0 0 0", "999 999 999 999 999", "3 1 2 2 0", "1 2 2 1 4", "3 2 1 2 1"};
        for (String text : none) {
            edges.due("read() of " + text, Check.read(x, text), NONE);
            edges.due("told(1) stays", x.told(1), 3);
            edges.due("count(2)", x.count(2), 0);
        }
        edges.says(18, "RANGE: it is no such row.");
        for (String text : NO_ROWS) {
            edges.due("read() of " + text, Check.read(x, text), RANGE);
            edges.due("told(1) stays", x.told(1), 3);
            edges.due("count(2)", x.count(2), 0);
        }
        x.take(6, 0);
        edges.due("read() of five numbers for six corners", Check.read(x, "3 1 2 2 1"), RANGE);
        edges.due("told(0) stays", x.told(0), 6);
    }

    private static void mend() {
        edges.says(19, "of all CUTS that whose CORNER ROW differs least (the sum of what the numbers differ by); then the least number");
        DiamondRows x = new DiamondRows();
        x.take(5, 3);
        // Rows by numbers: 31221 22131 13122 21312 12213.
        mends(x, "1 3 1 2 2", 0, 2);
        mends(x, "2 1 3 1 3", 1, 3);
        mends(x, "1 2 2 1 2", 1, 4);
        // From 22222: 1 + 1 + 0 + 0 + 1 for each.
        mends(x, "2 2 2 2 2", 3, 0);
        mends(x, "0 0 0 0 0", 9, 0);
        mends(x, "999 999 999 999 999", 5 * 999 - 9, 0);
        mends(x, "0 999 0 0 0", 996 + 1 + 1 + 2 + 2, 2);
        edges.says(19, "(The CUT stays.)");
        edges.due("told(1)", x.told(1), 3);
        x.take(9, 7);
        mends(x, "999 999 999 999 999 999 999 999 999", 9 * 999 - 21, 0);
        mends(x, "0 0 0 0 0 0 0 0 9", 1 + 2 * 6 + 1 + 2, 428);
        edges.due("told(1)", x.told(1), 7);
    }

    private static void mends(DiamondRows x, String text, int difference, int number) {
        edges.due("mend() of " + text, Check.mend(x, text), difference);
        edges.due("mended() of " + text, x.mended(), number);
        edges.due("count(2)", x.count(2), 0);
    }

    private static void mendRefused() {
        edges.says(19, "RANGE: it is no such row.");
        DiamondRows x = new DiamondRows();
        x.take(5, 3);
        Check.mend(x, "1 3 1 2 2");
        for (String text : NO_ROWS) {
            edges.due("mend() of " + text, Check.mend(x, text), RANGE);
            edges.due("mended() stays", x.mended(), 2);
            edges.due("told(1) stays", x.told(1), 3);
            edges.due("count(2)", x.count(2), 0);
        }
        x.take(4, 0);
        edges.due("mend() of five numbers for four corners", Check.mend(x, "3 1 2 2 1"), RANGE);
    }

    private static void mended() {
        edges.says(20, "The number of the CUT by the latest mend() that told a number; NONE.");
        DiamondRows x = new DiamondRows();
        edges.due("mended() ahead of any", x.mended(), NONE);
        Check.mend(x, "1 2 1");
        edges.due("mended() behind RANGE alone", x.mended(), NONE);
        Check.read(x, "1 2 1 2");
        edges.due("mended() behind read() alone", x.mended(), NONE);
        Check.mend(x, "1 2 1 9");
        edges.due("mended()", x.mended(), 1);
        Check.mend(x, "");
        x.take(9, 7);
        Check.cut(x, "corners 5;0 2;0 3;");
        edges.due("mended() stays", x.mended(), 1);
        Check.mend(x, "1 2 2 1 3");
        edges.due("mended() of the next one", x.mended(), 4);
    }

    private static void crossed() {
        edges.says(21, "How many LINES are CROSSED from a corner to another one, k NONE; else LINE k of them");
        DiamondRows x = new DiamondRows();
        Check.cut(x, "corners 7;1 6;1 3;3 6;3 5;");
        // From 0 to 4: 1 6, then 3 6, then 3 5. From 2 to 0: 1 3, then 1 6.
        int[] lines = {16 + 6, 48 + 6, 48 + 5};
        edges.due("crossed(0, 4, NONE)", x.crossed(0, 4, NONE), 3);
        edges.due("crossed(4, 0, NONE)", x.crossed(4, 0, NONE), 3);
        for (int k = 0; k < 3; k++) {
            edges.due("crossed(0, 4, " + k + ")", x.crossed(0, 4, k), lines[k]);
            edges.due("crossed(4, 0, " + k + ")", x.crossed(4, 0, k), lines[2 - k]);
        }
        edges.due("crossed(2, 0, NONE)", x.crossed(2, 0, NONE), 2);
        edges.due("crossed(2, 0, 0)", x.crossed(2, 0, 0), 16 + 3);
        edges.due("crossed(2, 0, 1)", x.crossed(2, 0, 1), 16 + 6);
        DiamondRows four = new DiamondRows();
        edges.due("crossed(3, 1, NONE) of four corners", four.crossed(3, 1, NONE), 1);
        edges.due("crossed(3, 1, 0) of four corners", four.crossed(3, 1, 0), 2);
        edges.says(21, "(none if they are next to each other or the CUT has it)");
        edges.due("crossed(3, 4, NONE)", x.crossed(3, 4, NONE), 0);
        edges.due("crossed(6, 0, NONE)", x.crossed(6, 0, NONE), 0);
        edges.due("crossed(0, 6, NONE)", x.crossed(0, 6, NONE), 0);
        edges.due("crossed(6, 3, NONE)", x.crossed(6, 3, NONE), 0);
        edges.due("crossed(6, 3, 0)", x.crossed(6, 3, 0), NONE);
        edges.due("crossed(0, 6, 0)", x.crossed(0, 6, 0), NONE);
    }

    private static void crossedRefused() {
        DiamondRows x = new DiamondRows();
        Check.cut(x, "corners 7;1 6;1 3;3 6;3 5;");
        edges.says(21, "(NONE: none such)");
        for (int k : new int[] {3, 4, -2, LEAST, MOST}) {
            edges.due("crossed(0, 4, " + k + ")", x.crossed(0, 4, k), NONE);
        }
        edges.says(21, "RANGE: no such corners, or alike.");
        for (int k = -1; k < 2; k++) {
            for (int wrong : new int[] {7, -1, LEAST, MOST}) {
                edges.due("crossed(0, " + wrong + ", " + k + ")", x.crossed(0, wrong, k), RANGE);
                edges.due("crossed(" + wrong + ", 0, " + k + ")", x.crossed(wrong, 0, k), RANGE);
            }
            for (int c = 0; c < 7; c++) {
                edges.due("crossed(" + c + ", itself, " + k + ")", x.crossed(c, c, k), RANGE);
            }
        }
    }

    private static void side() {
        DiamondRows x = new DiamondRows();
        Check.cut(x, "corners 7;1 6;1 3;3 6;3 5;");
        edges.says(22, "0 if it is strictly between i and j (as they follow i), 1 if it is strictly between j and i");
        // From 0 to 4: 1 6 and 3 6 have 6; 3 6 and 3 5 have 3.
        edges.due("side(0, 4, 0)", x.side(0, 4, 0), 1);
        edges.due("side(0, 4, 1)", x.side(0, 4, 1), 0);
        edges.due("side(4, 0, 0)", x.side(4, 0, 0), 1);
        edges.due("side(4, 0, 1)", x.side(4, 0, 1), 0);
        // From 2 to 0 (by 3 .. 6): 1 3 and 1 6 have 1.
        edges.due("side(2, 0, 0)", x.side(2, 0, 0), 1);
        edges.due("side(0, 2, 0)", x.side(0, 2, 0), 0);
        // From 2 to 5: 1 3 and 3 6 have 3.
        edges.due("side(2, 5, 0)", x.side(2, 5, 0), 0);
        edges.due("side(5, 2, 0)", x.side(5, 2, 0), 1);
        edges.says(22, "NONE: the last one, or none such");
        edges.due("side(0, 4, 2), the last one", x.side(0, 4, 2), NONE);
        edges.due("side(2, 0, 1), the last one", x.side(2, 0, 1), NONE);
        edges.due("side(2, 6, 0), the only one", x.side(2, 6, 0), NONE);
        edges.due("side(1, 3, 0), a LINE of the CUT", x.side(1, 3, 0), NONE);
        edges.due("side(1, 2, 0), next to each other", x.side(1, 2, 0), NONE);
        for (int k : new int[] {3, -1, -2, LEAST, MOST}) {
            edges.due("side(0, 4, " + k + ")", x.side(0, 4, k), NONE);
        }
        edges.says(22, "RANGE likewise.");
        for (int wrong : new int[] {7, -1, LEAST, MOST}) {
            edges.due("side(0, " + wrong + ", 0)", x.side(0, wrong, 0), RANGE);
            edges.due("side(" + wrong + ", 0, 0)", x.side(wrong, 0, 0), RANGE);
        }
        edges.due("side(2, 2, 0)", x.side(2, 2, 0), RANGE);
        edges.due("side(2, 2, 9)", x.side(2, 2, 9), RANGE);
    }

    private static void greatest() {
        DiamondRows x = new DiamondRows();
        edges.says(23, "the greatest entry of all FRIEZES of CUTS of n corners; of the CUTS with it the least number");
        int[] entries = {2, 3, 5, 8, 13, 21};
        for (int n = 4; n <= 9; n++) {
            edges.due("greatest(" + n + ", 0)", x.greatest(n, 0), entries[n - 4]);
        }
        // Of four and five corners all CUTS have it; of six those whose LINES turn once each way, first 03 04 13.
        edges.due("greatest(4, 1)", x.greatest(4, 1), 0);
        edges.due("greatest(5, 1)", x.greatest(5, 1), 0);
        edges.due("greatest(6, 1)", x.greatest(6, 1), 1);
        x.take(6, 1);
        edges.due("entry(2, 5) of that CUT", x.entry(2, 5), 5);
        edges.says(23, "what 0: the entry, 1: the number of the CUT; RANGE.");
        for (int n : new int[] {3, 10, 0, -1, LEAST, MOST}) {
            edges.due("greatest(" + n + ", 0)", x.greatest(n, 0), RANGE);
            edges.due("greatest(" + n + ", 1)", x.greatest(n, 1), RANGE);
        }
        for (int what : new int[] {2, -1, LEAST, MOST}) {
            edges.due("greatest(6, " + what + ")", x.greatest(6, what), RANGE);
        }
        edges.due("told(0) stays", x.told(0), 6);
        edges.due("told(1) stays", x.told(1), 1);
    }

    private static void spread() {
        DiamondRows x = new DiamondRows();
        edges.says(24, "how many CUTS of as many corners as the CUT has tell one number for two corners");
        for (int n = 4; n <= 9; n++) {
            x.take(n, COUNTS[n - 4] - 1);
            edges.due("spread(2, 2, 0)", x.spread(2, 2, 0), COUNTS[n - 4]);
            edges.due("spread(2, 2, 1)", x.spread(2, 2, 1), 0);
            edges.due("spread(0, the last one, 1)", x.spread(0, n - 1, 1), COUNTS[n - 4]);
            // With 0 2 as a LINE: the CUTS of one corner less. With n - 2 at 1: all LINES there.
            edges.due("spread(0, 2, 1)", x.spread(0, 2, 1), n == 4 ? 1 : COUNTS[n - 5]);
            edges.due("spread(2, 0, n - 2)", x.spread(2, 0, n - 2), 1);
            edges.due("spread(0, 2, n - 1)", x.spread(0, 2, n - 1), 0);
            edges.due("spread(0, 2, 0)", x.spread(0, 2, 0), 0);
            for (int v : new int[] {-1, LEAST, MOST}) {
                edges.due("spread(0, 2, " + v + ")", x.spread(0, 2, v), 0);
            }
            edges.says(24, "RANGE: no such corners.");
            for (int wrong : new int[] {n, -1, LEAST, MOST}) {
                edges.due("spread(0, " + wrong + ", 1)", x.spread(0, wrong, 1), RANGE);
                edges.due("spread(" + wrong + ", 0, 1)", x.spread(wrong, 0, 1), RANGE);
                edges.due("spread(" + wrong + ", itself, 0)", x.spread(wrong, wrong, 0), RANGE);
            }
            edges.says(24, "SPREAD of v for two corners");
        }
    }
}
