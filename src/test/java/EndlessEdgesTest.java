import java.io.IOException;

/** Promises 25 to 33, sentence by sentence: rows that go on without an end by a PERIOD. */
final class EndlessEdgesTest {
    private static final int NONE = DiamondRows.NONE;
    private static final int RANGE = DiamondRows.RANGE;
    private static final int FULL = DiamondRows.FULL;
    private static final int STATE = DiamondRows.STATE;
    private static final int LEAST = Integer.MIN_VALUE;
    private static final int MOST = Integer.MAX_VALUE;
    private static Edges edges;

    public static void main(String[] args) throws IOException {
        edges = new Edges();
        period();
        periodRefused();
        ofCut();
        of();
        along();
        breaks();
        comesBack();
        growth();
        glue();
        glueRefused();
        cutOff();
        cutOffRefused();
        core();
        edges.finish(25, 33);
    }

    private static DiamondRows with(String text) {
        DiamondRows x = new DiamondRows();
        edges.holds("period() of " + text, Check.period(x, text) > 0);
        return x;
    }

    private static void is(DiamondRows x, int... numbers) {
        edges.due("told(3)", x.told(3), numbers.length);
        for (int i = 0; i < numbers.length; i++) {
            edges.due("of(" + i + ")", x.of(i), numbers[i]);
        }
    }

    private static void period() {
        edges.says(25, "each 1 .. 20, m 1 .. 10");
        DiamondRows x = new DiamondRows();
        edges.due("period() of one", Check.period(x, "20"), 1);
        is(x, 20);
        edges.due("period() of ten", Check.period(x, "1 20 1 20 1 20 1 20 1 20"), 10);
        is(x, 1, 20, 1, 20, 1, 20, 1, 20, 1, 20);
        edges.due("period() of fewer than there were", Check.period(x, "5 6"), 2);
        is(x, 5, 6);
        edges.says(25, "TOKENS with any blanks (32, 10) between");
        edges.due("period() of blanks and noughts", Check.period(x, "\n 007 \n\n020"), 2);
        is(x, 7, 20);
        edges.due("period() of 300 bytes", Check.period(x, "3" + " ".repeat(298) + "4"), 2);
        is(x, 3, 4);
    }

    private static void periodRefused() {
        edges.says(25, "RANGE: it is none.");
        DiamondRows x = with("3 4");
        String[] none = {"", " ", "\n", "0", "1 0", "21", "1 21", "999", "1 1 1 1 1 1 1 1 1 1 1",
            "1 1 1 1 1 1 1 1 1 1 1 1 1 1 1 1 1 1 1 1 1", "1;", ";1", "1 x", "x", "0001", "1 0020", "-1", "1,2", "1\t2", "1\r"};
        for (String text : none) {
            edges.due("period() of " + text, Check.period(x, text), RANGE);
            is(x, 3, 4);
            edges.due("count(2): it was read", x.count(2), 0);
        }
    }

    private static void ofCut() {
        edges.says(26, "The PERIOD becomes the CORNER ROW of the CUT: how many numbers.");
        DiamondRows x = with("5 5 5 5 5 5 5 5 5 5");
        edges.due("ofCut() of four corners", x.ofCut(), 4);
        is(x, 2, 1, 2, 1);
        x.flip(0, 2);
        is(x, 2, 1, 2, 1);
        edges.due("ofCut() behind a FLIP", x.ofCut(), 4);
        is(x, 1, 2, 1, 2);
        x.take(9, 428);
        is(x, 1, 2, 1, 2);
        edges.due("ofCut() of nine corners", x.ofCut(), 9);
        is(x, 1, 2, 2, 2, 2, 2, 2, 1, 7);
        edges.due("told(0) stays", x.told(0), 9);
        edges.due("told(1) stays", x.told(1), 428);
    }

    private static void of() {
        edges.says(27, "Number i of the PERIOD (0 .. m - 1); RANGE.");
        DiamondRows x = with("7 8 9");
        is(x, 7, 8, 9);
        for (int i : new int[] {3, 4, 10, -1, -3, LEAST, MOST}) {
            edges.due("of(" + i + ")", x.of(i), RANGE);
        }
        Check.period(x, "7");
        edges.due("of(1), which there was", x.of(1), RANGE);
        Check.period(x, "1 2 3 4 5 6 7 8 9 10");
        edges.due("of(9)", x.of(9), 10);
        edges.due("of(10)", x.of(10), RANGE);
    }

    private static void along() {
        edges.says(28, "e(i, 0) is 0, e(i, 1) is 1, e(i, l + 1) is a(i + l) times e(i, l), less e(i, l - 1)");
        DiamondRows x = with("2 3 5");
        // From 1: 5, then 2 * 5 - 1, then 3 * 9 - 5, then 5 * 22 - 9: the numbers go on with the first one.
        long[] fromOne = {0, 1, 5, 9, 22, 101};
        for (int length = 0; length < fromOne.length; length++) {
            edges.due("along(1, " + length + ")", x.along(1, length), fromOne[length]);
        }
        edges.due("along(2, 2): the first one is behind the last", x.along(2, 2), 2);
        edges.due("along(2, 12)", x.along(2, 12), 3 * x.along(2, 11) - x.along(2, 10));
        edges.says(28, "ENTRY of i (0 .. m - 1) and a length (0 .. 12); RANGE (-9000000000000000000).");
        long none = -9000000000000000000L;
        for (int i : new int[] {3, -1, LEAST, MOST}) {
            edges.due("along(" + i + ", 0)", x.along(i, 0), none);
            edges.due("along(" + i + ", 12)", x.along(i, 12), none);
        }
        for (int length : new int[] {13, -1, LEAST, MOST}) {
            edges.due("along(0, " + length + ")", x.along(0, length), none);
        }
        DiamondRows y = with("1");
        // 0 1 1 0 -1 -1 0 1 1 0 -1 -1 0: below 0 too.
        long[] ones = {0, 1, 1, 0, -1, -1, 0, 1, 1, 0, -1, -1, 0};
        for (int length = 0; length <= 12; length++) {
            edges.due("along(0, " + length + ") of 1", y.along(0, length), ones[length]);
        }
        edges.due("along(1, 0) of 1", y.along(1, 0), none);
        edges.due("along(9, 12) of twenties", with("20 20 20 20 20 20 20 20 20 20").along(9, 12), 199725901079880L);
    }

    private static void breaks() {
        edges.says(29, "the least length 2 .. 12 with an ENTRY that is 0 or less, and then the least i (0 .. m - 1) with it");
        // An ENTRY of length 2 is a number of the PERIOD, so never 0; of length 3: 1 times 1 less 1.
        breaksAt("1", 3, 0, 1);
        // The ENTRY of i and 3 has a(i + 1) and a(i + 2): 1 1 lies ahead of 1 only, and of 3 only.
        breaksAt("9 9 1 1", 3, 1, 0);
        breaksAt("1 9 9 9 1", 3, 3, 0);
        breaksAt("1 1 9 9", 3, 3, 0);
        breaksAt("9 1 1 1 9", 3, 0, 0);
        // 2 1 2 1: of length 4 from 0: 1 2 1, so 1, 1, 0.
        breaksAt("2 1 2 1", 4, 0, 1);
        // Of length 4 from 1 the same lies ahead, elsewhere a 9 does.
        breaksAt("9 9 1 2 1", 4, 1, 0);
        edges.says(29, "NONE: it doesn't break up to 12 (of all three), or another what.");
        for (String text : new String[] {"2", "20", "3 2", "2 2 2 2 2 2 2 2 2 2", "4 1", "7 1 2 2 2 2 2"}) {
            DiamondRows x = with(text);
            for (int what = -1; what <= 3; what++) {
                edges.due("breaks(" + what + ") of " + text, x.breaks(what), NONE);
            }
        }
        DiamondRows x = with("1");
        for (int what : new int[] {3, -1, LEAST, MOST}) {
            edges.due("breaks(" + what + ")", x.breaks(what), NONE);
        }
    }

    private static void breaksAt(String text, int length, int place, int back) {
        DiamondRows x = with(text);
        edges.due("breaks(0) of " + text, x.breaks(0), length);
        edges.due("breaks(1) of " + text, x.breaks(1), place);
        edges.due("breaks(2) of " + text, x.breaks(2), back);
    }

    private static void comesBack() {
        edges.says(29, "where all ENTRIES of that length are 0 (and those of l + 1 all -1, if l is not 12)");
        // The CORNER ROWS of polygons, told once or by the part that comes again and again.
        breaksAt("1 1 1", 3, 0, 1);
        breaksAt("3 1 2 2 1", 5, 0, 1);
        breaksAt("3 1", 6, 0, 1);
        breaksAt("4 1 2", 9, 0, 1);
        breaksAt("5 1 2 2 2", 10, 0, 1);
        // Twelve corners, in thirds round a triangle and in halves on a LINE.
        breaksAt("5 1 2 2", 12, 0, 1);
        breaksAt("6 1 2 2 2 2", 12, 0, 1);
        // It breaks at 12, but not all ENTRIES of that length are 0.
        DiamondRows x = with("4 4 1 2 4 2 3 1 2");
        edges.due("breaks(0)", x.breaks(0), 12);
        edges.due("breaks(2)", x.breaks(2), 0);
    }

    private static void growth() {
        edges.says(30, "e(0, m + 1) less e(1, m - 1)");
        for (int a = 1; a <= 20; a++) {
            edges.due("growth() of " + a, with("" + a).growth(), a);
        }
        // For two numbers: a(1) times a(0), less 1, less 1.
        edges.due("growth() of 1 1", with("1 1").growth(), -1);
        edges.due("growth() of 20 20", with("20 20").growth(), 398);
        edges.due("growth() of 1 1 1", with("1 1 1").growth(), -2);
        // 2 3 5: e(0, 4) is 2 * 14 - 3, e(1, 2) is 5.
        edges.due("growth() of 2 3 5", with("2 3 5").growth(), 20);
        edges.due("growth() of ten twos", with("2 2 2 2 2 2 2 2 2 2").growth(), 2);
        DiamondRows x = with("20 20 20 20 20 20 20 20 20 20");
        edges.due("growth() of ten twenties", x.growth(), x.along(0, 11) - x.along(1, 9));
        edges.due("growth() of 3 1 2 2 1", with("3 1 2 2 1").growth(), -2);
    }

    private static void glue() {
        edges.says(31, "a 1 is put in behind a(i), and a(i) and the number that was behind it");
        DiamondRows x = with("5 6 7");
        edges.due("glue(0)", x.glue(0), 4);
        is(x, 6, 1, 7, 7);
        x = with("5 6 7");
        edges.due("glue(1)", x.glue(1), 4);
        is(x, 5, 7, 1, 8);
        edges.says(31, "(as the PERIOD goes on; for m 1 a(0) itself, twice)");
        x = with("5 6 7");
        edges.due("glue(2), the last one", x.glue(2), 4);
        is(x, 6, 6, 8, 1);
        x = with("5");
        edges.due("glue(0) of one", x.glue(0), 2);
        is(x, 7, 1);
        x = with("5 6");
        edges.due("glue(1) of two", x.glue(1), 3);
        is(x, 6, 7, 1);
        x = with("1 2 3 4 5 6 7 8 9");
        edges.due("glue(8) of nine", x.glue(8), 10);
        is(x, 2, 2, 3, 4, 5, 6, 7, 8, 10, 1);
    }

    private static void glueRefused() {
        edges.says(31, "RANGE: no such i");
        DiamondRows x = with("5 6 7");
        for (int i : new int[] {3, -1, LEAST, MOST}) {
            edges.due("glue(" + i + ")", x.glue(i), RANGE);
        }
        is(x, 5, 6, 7);
        edges.says(31, "FULL: there would be more than 10, or a number above 20.");
        x = with("1 2 3 4 5 6 7 8 9 10");
        for (int i = 0; i < 10; i++) {
            edges.due("glue(" + i + ") of ten", x.glue(i), FULL);
        }
        edges.due("glue(10) of ten", x.glue(10), RANGE);
        is(x, 1, 2, 3, 4, 5, 6, 7, 8, 9, 10);
        x = with("20 3 19");
        edges.due("glue(0): 21", x.glue(0), FULL);
        edges.due("glue(2): 21 behind the last one", x.glue(2), FULL);
        is(x, 20, 3, 19);
        edges.due("glue(1): 20", x.glue(1), 4);
        is(x, 20, 4, 1, 20);
        x = with("20");
        edges.due("glue(0) of 20", x.glue(0), FULL);
        x = with("19");
        edges.due("glue(0) of 19: 21 by both", x.glue(0), FULL);
        is(x, 19);
        x = with("18");
        edges.due("glue(0) of 18: 20 by both", x.glue(0), 2);
        is(x, 20, 1);
    }

    private static void cutOff() {
        edges.says(32, "it goes, and both numbers beside it become less by 1");
        DiamondRows x = with("5 1 7 8");
        edges.due("cutOff(1)", x.cutOff(1), 3);
        is(x, 4, 6, 8);
        x = with("1 5 6 7");
        edges.due("cutOff(0): the last one is beside it", x.cutOff(0), 3);
        is(x, 4, 6, 6);
        x = with("5 6 7 1");
        edges.due("cutOff(3): the first one is beside it", x.cutOff(3), 3);
        is(x, 4, 6, 6);
        edges.says(32, "where a(i) is 1 (and m is 3 or more)");
        x = with("1 2 2");
        edges.due("cutOff(0) of three", x.cutOff(0), 2);
        is(x, 1, 1);
        x = with("2 20 2 2 2 2 2 2 2 1");
        edges.due("cutOff(9) of ten", x.cutOff(9), 9);
        is(x, 1, 20, 2, 2, 2, 2, 2, 2, 1);
    }

    private static void cutOffRefused() {
        edges.says(32, "RANGE: no such i");
        DiamondRows x = with("1 5 6");
        for (int i : new int[] {3, -1, LEAST, MOST}) {
            edges.due("cutOff(" + i + ")", x.cutOff(i), RANGE);
        }
        edges.says(32, "STATE: a(i) is not 1, there are fewer than three, or a number beside it would be 0.");
        edges.due("cutOff(1): 5", x.cutOff(1), STATE);
        edges.due("cutOff(2): 6", x.cutOff(2), STATE);
        is(x, 1, 5, 6);
        x = with("1 5");
        edges.due("cutOff(0) of two", x.cutOff(0), STATE);
        is(x, 1, 5);
        x = with("1");
        edges.due("cutOff(0) of one", x.cutOff(0), STATE);
        edges.due("cutOff(1) of one", x.cutOff(1), RANGE);
        is(x, 1);
        x = with("1 1 9 9");
        edges.due("cutOff(0): the 1 behind it", x.cutOff(0), STATE);
        edges.due("cutOff(1): the 1 ahead of it", x.cutOff(1), STATE);
        is(x, 1, 1, 9, 9);
        x = with("1 9 9 1");
        edges.due("cutOff(0): the last one", x.cutOff(0), STATE);
        edges.due("cutOff(3): the first one", x.cutOff(3), STATE);
        is(x, 1, 9, 9, 1);
    }

    private static void core() {
        edges.says(33, "always the first 1 is CUT OFF, as long as there is one, m is 3 or more, and both numbers beside it are above 1");
        coreIs("1", 0, 1);
        coreIs("1 9", 0, 1, 9);
        coreIs("1 1 1", 0, 1, 1, 1);
        coreIs("2 3 4", 0, 2, 3, 4);
        coreIs("1 2 2", 1, 1, 1);
        coreIs("1 3 3", 1, 2, 2);
        // 3 1 2 2 1: the first 1 goes: 2 1 2 1; again: 1 1 1.
        coreIs("3 1 2 2 1", 2, 1, 1, 1);
        // 5 1 5 1: then 4 4 1, then 3 3.
        coreIs("5 1 5 1", 2, 3, 3);
        // 5 2 1 9: then 5 1 8, then 4 7: a 1 that came to be is CUT OFF too.
        coreIs("5 2 1 9", 2, 4, 7);
        // The first 1 has a 1 beside it, another one has none.
        coreIs("1 1 9 1 9", 0, 1, 1, 9, 1, 9);
        coreIs("1 9 1 9 1", 0, 1, 9, 1, 9, 1);
        // 9 1 9 1 1: the first 1 goes, the next has a 1 beside it.
        coreIs("9 1 9 1 1", 1, 8, 8, 1, 1);
        // Ten: a polygon of ten corners with all LINES at one of them: down to a triangle.
        coreIs("8 1 2 2 2 2 2 2 2 1", 7, 1, 1, 1);
        edges.says(33, "how many numbers were CUT OFF");
        DiamondRows x = with("3 1 2 2 1");
        edges.due("core()", x.core(), 2);
        edges.due("core() of a CORE", x.core(), 0);
        is(x, 1, 1, 1);
    }

    private static void coreIs(String text, int off, int... left) {
        DiamondRows x = with(text);
        edges.due("core() of " + text, x.core(), off);
        is(x, left);
    }
}
