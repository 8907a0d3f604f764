/** Promises 25 to 33: rows that go on without an end by a PERIOD. */
final class EndlessTest {
    private static final Check CHECK = new Check();

    public static void main(String[] args) {
        period();
        ofCut();
        along();
        breaks();
        growth();
        glue();
        cutOff();
        core();
        CHECK.finish();
    }

    private static void is(DiamondRows x, int... numbers) {
        CHECK.due("told(3)", x.told(3), numbers.length);
        for (int i = 0; i < numbers.length; i++) {
            CHECK.due("of(" + i + ")", x.of(i), numbers[i]);
        }
        CHECK.due("of(m)", x.of(numbers.length), DiamondRows.RANGE);
        CHECK.due("of(-1)", x.of(-1), DiamondRows.RANGE);
    }

    private static void period() {
        DiamondRows x = new DiamondRows();
        CHECK.due("period() of ten", Check.period(x, "1 2 3 4 5 6 7 8 9 20"), 10);
        is(x, 1, 2, 3, 4, 5, 6, 7, 8, 9, 20);
        String[] wrong = {"", " ", "0", "21", "1 2 0", "1 2 3 4 5 6 7 8 9 10 11", "1;", "a", "0001", "1 x", "-1",
            "999", "1 2 3 4 5 6 7 8 9 10 11 12 13 14"};
        for (String text : wrong) {
            CHECK.due("period() of " + text, Check.period(x, text), DiamondRows.RANGE);
        }
        is(x, 1, 2, 3, 4, 5, 6, 7, 8, 9, 20);
        CHECK.due("period() of blanks and zeros", Check.period(x, "\n 007\n20 "), 2);
        is(x, 7, 20);
    }

    private static void ofCut() {
        DiamondRows x = new DiamondRows();
        CHECK.due("ofCut()", x.ofCut(), 4);
        is(x, 2, 1, 2, 1);
        Check.cut(x, "corners 9;0 2;0 3;0 4;0 5;0 6;0 7;");
        is(x, 2, 1, 2, 1);
        CHECK.due("ofCut()", x.ofCut(), 9);
        is(x, 7, 1, 2, 2, 2, 2, 2, 2, 1);
        for (int length = 0; length < 9; length++) {
            for (int i = 0; i < 9; i++) {
                CHECK.due("along() of a CUT", x.along(i, length), x.entry(i, (i + length) % 9));
            }
        }
        CHECK.due("breaks(0)", x.breaks(0), 9);
        CHECK.due("breaks(2)", x.breaks(2), 1);
        CHECK.due("growth()", x.growth(), -2);
    }

    private static void along() {
        DiamondRows x = new DiamondRows();
        Check.period(x, "1 5 2");
        // From 0: 5, then 2 * 5 - 1, then 1 * 9 - 5.
        long[] fromZero = {0, 1, 5, 9, 4};
        for (int length = 0; length < 5; length++) {
            CHECK.due("along(0, " + length + ")", x.along(0, length), fromZero[length]);
        }
        CHECK.due("along(2, 2)", x.along(2, 2), 1);
        CHECK.due("along(2, 3)", x.along(2, 3), 4);
        long none = -9000000000000000000L;
        CHECK.due("along(3, 1)", x.along(3, 1), none);
        CHECK.due("along(-1, 1)", x.along(-1, 1), none);
        CHECK.due("along(0, -1)", x.along(0, -1), none);
        CHECK.due("along(0, 13)", x.along(0, 13), none);
        CHECK.due("along(0, least)", x.along(0, Integer.MIN_VALUE), none);
        Check.period(x, "20");
        CHECK.due("along(0, 12)", x.along(0, 12), 199725901079880L);
    }

    private static void breaks() {
        // Polygons cut alike all round: six corners, nine by thirds, ten by halves, twelve by halves and thirds.
        comesBack("3 1", 6);
        comesBack("3 1 3 1 3 1", 6);
        comesBack("4 1 2", 9);
        comesBack("5 1 2 2 2", 10);
        comesBack("5 1 2 2 2 5 1 2 2 2", 10);
        comesBack("6 1 2 2 2 2", 12);
        comesBack("5 1 2 2", 12);
        DiamondRows x = new DiamondRows();
        for (String text : new String[] {"2", "3", "7 1 2 2 2 2 2", "20 20"}) {
            Check.period(x, text);
            for (int what = -1; what < 4; what++) {
                CHECK.due("breaks(" + what + ") of " + text, x.breaks(what), DiamondRows.NONE);
            }
        }
        // Of length 3 from 2 it is 1 * 1 - 1, from the others it is 1 * 5 - 1.
        breaksOnly("1 1 5", 3, 2);
        // From 4 the numbers 3 1 2 2 lie ahead: 3, 2, 1, 0; from 0 they are 1 2 2 2: 1, 1, 1, 1.
        breaksOnly("3 1 2 2 2 3 1 2 2 2", 5, 4);
        breaksOnly("2 2 4 2 3 2 4 2 4 1", 11, 4);
        breaksOnly("4 4 1 2 4 2 3 1 2", 12, 0);
    }

    private static void comesBack(String text, int length) {
        DiamondRows x = new DiamondRows();
        CHECK.holds("period() of " + text, Check.period(x, text) > 0);
        CHECK.due("breaks(0) of " + text, x.breaks(0), length);
        CHECK.due("breaks(1) of " + text, x.breaks(1), 0);
        CHECK.due("breaks(2) of " + text, x.breaks(2), 1);
        CHECK.due("breaks(3) of " + text, x.breaks(3), DiamondRows.NONE);
        CHECK.due("breaks(-1) of " + text, x.breaks(-1), DiamondRows.NONE);
    }

    private static void breaksOnly(String text, int length, int place) {
        DiamondRows x = new DiamondRows();
        CHECK.holds("period() of " + text, Check.period(x, text) > 0);
        CHECK.due("breaks(0) of " + text, x.breaks(0), length);
        CHECK.due("breaks(1) of " + text, x.breaks(1), place);
        CHECK.due("breaks(2) of " + text, x.breaks(2), 0);
        CHECK.holds("the entry is 0 or less", x.along(place, length) <= 0);
    }

    private static void growth() {
        DiamondRows x = new DiamondRows();
        CHECK.due("growth() of 1", x.growth(), 1);
        Check.period(x, "20");
        CHECK.due("growth() of 20", x.growth(), 20);
        Check.period(x, "3 4");
        // e(0, 3) is 3 * 4 - 1, e(1, 1) is 1.
        CHECK.due("growth() of 3 4", x.growth(), 10);
        Check.period(x, "2 3 5");
        // e(0, 4) is 2 * (5 * 3 - 1) - 3, e(1, 2) is 5.
        CHECK.due("growth() of 2 3 5", x.growth(), 20);
        Check.period(x, "20 20 20 20 20 20 20 20 20 20");
        CHECK.due("growth() of ten", x.growth(), x.along(0, 11) - x.along(1, 9));
        Check.period(x, "2 2 2 2 2 2 2 2 2 2");
        CHECK.due("growth() of twos", x.growth(), 2);
        Check.period(x, "1 1 1");
        CHECK.due("growth() of a triangle", x.growth(), -2);
    }

    private static void glue() {
        DiamondRows x = new DiamondRows();
        CHECK.due("glue(0) of one", x.glue(0), 2);
        is(x, 3, 1);
        CHECK.due("glue(0)", x.glue(0), 3);
        is(x, 4, 1, 2);
        CHECK.due("glue(2): the last one, so the first one grows", x.glue(2), 4);
        is(x, 5, 1, 3, 1);
        CHECK.due("glue(1)", x.glue(1), 5);
        is(x, 5, 2, 1, 4, 1);
        CHECK.due("glue(5)", x.glue(5), DiamondRows.RANGE);
        CHECK.due("glue(-1)", x.glue(-1), DiamondRows.RANGE);
        Check.period(x, "1 2 3 4 5 6 7 8 9 10");
        CHECK.due("glue(0) of ten", x.glue(0), DiamondRows.FULL);
        CHECK.due("glue(10) of ten", x.glue(10), DiamondRows.RANGE);
        is(x, 1, 2, 3, 4, 5, 6, 7, 8, 9, 10);
        Check.period(x, "20 1 1");
        CHECK.due("glue(0): 21", x.glue(0), DiamondRows.FULL);
        CHECK.due("glue(2): 21", x.glue(2), DiamondRows.FULL);
        is(x, 20, 1, 1);
        CHECK.due("glue(1)", x.glue(1), 4);
        is(x, 20, 2, 1, 2);
        Check.period(x, "18");
        CHECK.due("glue(0) of 18", x.glue(0), 2);
        is(x, 20, 1);
        Check.period(x, "19");
        CHECK.due("glue(0) of 19", x.glue(0), DiamondRows.FULL);
        is(x, 19);
        Check.period(x, "19 19");
        CHECK.due("glue(1) of 19 19", x.glue(1), 3);
        is(x, 20, 20, 1);
        Check.period(x, "2 2 2 2 2 2 2 2 2");
        CHECK.due("glue(8) of nine", x.glue(8), 10);
        is(x, 3, 2, 2, 2, 2, 2, 2, 2, 3, 1);
    }

    private static void cutOff() {
        DiamondRows x = new DiamondRows();
        Check.period(x, "1 3 4");
        CHECK.due("cutOff(0): the last one is beside it", x.cutOff(0), 2);
        is(x, 2, 3);
        Check.period(x, "3 4 1");
        CHECK.due("cutOff(2): the first one is beside it", x.cutOff(2), 2);
        is(x, 2, 3);
        Check.period(x, "5 3 1 4 6");
        CHECK.due("cutOff(2)", x.cutOff(2), 4);
        is(x, 5, 2, 3, 6);
        CHECK.due("cutOff(0): not 1", x.cutOff(0), DiamondRows.STATE);
        CHECK.due("cutOff(4)", x.cutOff(4), DiamondRows.RANGE);
        CHECK.due("cutOff(-1)", x.cutOff(-1), DiamondRows.RANGE);
        Check.period(x, "1 1 5");
        CHECK.due("cutOff(0): the 1 behind it", x.cutOff(0), DiamondRows.STATE);
        CHECK.due("cutOff(1): the 1 ahead of it", x.cutOff(1), DiamondRows.STATE);
        Check.period(x, "1 5");
        CHECK.due("cutOff(0) of two", x.cutOff(0), DiamondRows.STATE);
        Check.period(x, "1");
        CHECK.due("cutOff(0) of one", x.cutOff(0), DiamondRows.STATE);
        CHECK.due("cutOff(1) of one", x.cutOff(1), DiamondRows.RANGE);
    }

    private static void core() {
        DiamondRows x = new DiamondRows();
        CHECK.due("core() of 1", x.core(), 0);
        for (int number = 0; number < 429; number++) {
            x.take(9, number);
            x.ofCut();
            CHECK.due("core() of a CUT", x.core(), 6);
            is(x, 1, 1, 1);
        }
        Check.period(x, "2 3 4");
        CHECK.due("core() without a 1", x.core(), 0);
        is(x, 2, 3, 4);
        Check.period(x, "4 1 2 1 5");
        // The first 1 goes: 3 1 1 5; the first 1 then has a 1 beside it.
        CHECK.due("core()", x.core(), 1);
        is(x, 3, 1, 1, 5);
        Check.period(x, "1 1 3 1 3");
        CHECK.due("core() looks at the first 1 alone", x.core(), 0);
        is(x, 1, 1, 3, 1, 3);
        Check.period(x, "1 3 3");
        CHECK.due("core() of three", x.core(), 1);
        is(x, 2, 2);
        Check.period(x, "1 2 2");
        CHECK.due("core() ends with two", x.core(), 1);
        is(x, 1, 1);
        CHECK.due("core() once more", x.core(), 0);
    }
}
