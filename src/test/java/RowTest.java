/** Promises 18 to 20: CORNER ROWS read back, and MENDED. */
final class RowTest {
    private static final Check CHECK = new Check();
    private static final int[] COUNTS = {2, 5, 14, 42, 132, 429};

    public static void main(String[] args) {
        for (int n = 4; n <= 9; n++) {
            readBack(n);
        }
        read();
        noRows();
        mend();
        CHECK.finish();
    }

    private static void readBack(int n) {
        DiamondRows x = new DiamondRows();
        for (int number = 0; number < COUNTS[n - 4]; number++) {
            x.take(n, number);
            StringBuilder row = new StringBuilder();
            for (int i = 0; i < n; i++) {
                row.append(x.row(i)).append(' ');
            }
            x.take(n, 0);
            CHECK.due("read() of " + row, Check.read(x, row.toString()), number);
            CHECK.due("told(1)", x.told(1), number);
            x.take(n, 1);
            CHECK.due("mend() of " + row, Check.mend(x, row.toString()), 0);
            CHECK.due("mended()", x.mended(), number);
            CHECK.due("told(1) stays", x.told(1), 1);
        }
    }

    private static void read() {
        DiamondRows x = new DiamondRows();
        x.take(6, 5);
        x.see(0, 0, 2, 1);
        CHECK.due("read() of blanks and zeros", Check.read(x, "\n03 1\n003  1 3 1\n"), x.told(1));
        CHECK.due("row(0)", x.row(0), 3);
        CHECK.due("SEEN stay", x.count(0), 1);
        int here = x.told(1);
        CHECK.due("read() of no CORNER ROW", Check.read(x, "2 2 2 2 2 2"), DiamondRows.NONE);
        CHECK.due("read() of noughts", Check.read(x, "0 0 0 0 0 0"), DiamondRows.NONE);
        CHECK.due("read() of large numbers", Check.read(x, "999 999 999 999 999 999"), DiamondRows.NONE);
        CHECK.due("told(1) stays", x.told(1), here);
        CHECK.due("mended() knows nothing of read()", x.mended(), DiamondRows.NONE);
    }

    private static void noRows() {
        String[] texts = {"", "3 1 3 1 3", "3 1 3 1 3 1 1", "3 1 3 1 3 1;", "3,1 3 1 3 1", "a 1 3 1 3 1",
            "3 1 3 1 3 0001", "3 1 3 1 3 -1", "1 1 1 1 1 1 1 1 1 1 1 1", "3 1 3 1 3 1 x", "313131"};
        for (String text : texts) {
            DiamondRows x = new DiamondRows();
            x.take(6, 0);
            Check.mend(x, "3 1 3 1 3 1");
            int before = x.mended();
            CHECK.due("read() of " + text, Check.read(x, text), DiamondRows.RANGE);
            CHECK.due("mend() of " + text, Check.mend(x, text), DiamondRows.RANGE);
            CHECK.due("mended() stays", x.mended(), before);
            CHECK.due("told(1) stays", x.told(1), 0);
        }
    }

    private static void mend() {
        DiamondRows x = new DiamondRows();
        // 2 1 2 1 and 1 2 1 2 differ from 2 2 2 2 by 2 each: the least number.
        CHECK.due("mend() of 2 2 2 2", Check.mend(x, "2 2 2 2"), 2);
        CHECK.due("mended()", x.mended(), 0);
        CHECK.due("mend() of 0 2 1 2", Check.mend(x, "0 2 1 2"), 1);
        CHECK.due("mended()", x.mended(), 1);
        CHECK.due("mend() of large numbers", Check.mend(x, "999 999 999 999"), 4 * 999 - 6);
        CHECK.due("mended()", x.mended(), 0);
        x.take(5, 4);
        CHECK.due("mended() stays", x.mended(), 0);
        // The rows of five corners by numbers: 31221, 22131, 13122 .. ; 1 3 1 2 3 is 1 from number 2.
        CHECK.due("mend() of 1 3 1 2 3", Check.mend(x, "1 3 1 2 3"), 1);
        CHECK.due("mended()", x.mended(), 2);
        CHECK.due("told(1) stays", x.told(1), 4);
    }
}
