/** Promises 4 and 5: a CUT's text, its FAULTS, and what becomes of SEEN. */
final class CutTextTest {
    private static final Check CHECK = new Check();

    public static void main(String[] args) {
        good();
        syntax();
        range();
        twiceNextCross();
        few();
        stays();
        seen();
        CHECK.finish();
    }

    private static void number(String text, int corners, int number) {
        DiamondRows x = new DiamondRows();
        CHECK.due("cut() of " + text, Check.cut(x, text), number);
        CHECK.due("told(0)", x.told(0), corners);
        CHECK.due("told(1)", x.told(1), number);
        CHECK.due("fault(0)", x.fault(0), 0);
        CHECK.due("fault(1)", x.fault(1), DiamondRows.NONE);
        CHECK.due("fault(2)", x.fault(2), DiamondRows.NONE);
    }

    private static void fault(String text, int kind, int place) {
        DiamondRows x = new DiamondRows();
        x.take(4, 1);
        CHECK.due("cut() of " + text, Check.cut(x, text), DiamondRows.NONE);
        CHECK.due("fault(0) of " + text, x.fault(0), kind);
        CHECK.due("fault(1) of " + text, x.fault(1), place);
        CHECK.due("fault(-1)", x.fault(-1), DiamondRows.NONE);
        CHECK.due("told(0)", x.told(0), 4);
        CHECK.due("told(1)", x.told(1), 1);
    }

    private static void good() {
        number("corners 4;0 2;", 4, 0);
        number("corners 4;3 1;", 4, 1);
        number("corners 5;0 2;0 3;", 5, 0);
        number("corners 5;3 1;3 0;", 5, 1);
        number("corners 5;1 3;4 1;", 5, 2);
        number("corners 5;0 2;2 4;", 5, 3);
        number("corners 5;2 4;1 4;", 5, 4);
        number("corners5;0 2;0 3;", 5, 0);
        number("\n corners\n\n005 ; 00 02;000 3  ;\n ", 5, 0);
        number("corners 9;0 2;0 3;0 4;0 5;0 6;0 7;", 9, 0);
    }

    private static void syntax() {
        fault("", 1, 0);
        fault("  \n", 1, 3);
        fault("corner 4;0 2;", 1, 0);
        fault("cornerss 4;0 2;", 1, 0);
        fault(" cornersss 4;0 2;", 1, 1);
        fault("cornersa 4;0 2;", 1, 0);
        fault("cornersz4;0 2;", 1, 0);
        fault("corners`4;0 2;", 1, 7);
        fault("corners{4;0 2;", 1, 7);
        fault("corners 4:0 2;", 1, 9);
        fault("corners 4/0 2;", 1, 9);
        fault("4;0 2;", 1, 0);
        fault(";", 1, 0);
        fault("Corners 4;0 2;", 1, 0);
        fault("corners", 1, 7);
        fault("corners  ", 1, 9);
        fault("corners;", 1, 7);
        fault("corners corners", 1, 8);
        fault("corners 4", 1, 9);
        fault("corners 4 0 2;", 1, 10);
        fault("corners 0004;0 2;", 1, 8);
        fault("corners 4;0 2", 1, 13);
        fault("corners 4;0;", 1, 11);
        fault("corners 4;0", 1, 11);
        fault("corners 4;;", 1, 10);
        fault("corners 4;0 2;;", 1, 14);
        fault("corners 4;0 2 ;a", 1, 15);
        fault("corners 4;0 2 2;", 1, 14);
        fault("corners\t4;0 2;", 1, 7);
        fault("corners 4;0 2;\r", 1, 14);
        fault("corners 4;0 2;" + (char) 160, 1, 14);
        fault("corners 4;0 -2;", 1, 12);
        fault("corners 4;0000 2;", 1, 10);
    }

    private static void range() {
        fault("corners 3;", 2, 8);
        fault("corners 10;", 2, 8);
        fault("corners  0", 2, 9);
        fault("corners 999", 2, 8);
        fault("corners 4;4 0;", 2, 10);
        fault("corners 4;0 4;", 2, 12);
        fault("corners 9;9", 2, 10);
        fault("corners 4;0 2;999", 2, 14);
    }

    private static void twiceNextCross() {
        fault("corners 5;0 2;0 2;", 3, 16);
        fault("corners 5;0 2;2 0;", 3, 16);
        fault("corners 4;0 2;0 2;", 3, 16);
        fault("corners 5;0 0;", 4, 12);
        fault("corners 5;0 1;", 4, 12);
        fault("corners 5;1 0;", 4, 12);
        fault("corners 5;0 4;", 4, 12);
        fault("corners 5;4 0;", 4, 12);
        fault("corners 5;4 3", 4, 12);
        fault("corners 5;0 2;1 3;", 5, 16);
        fault("corners 5;0 2;1  4", 5, 17);
        fault("corners 5;0 2;0 3;4 1;", 5, 20);
        fault("corners 4;0 2;3 1;", 5, 16);
    }

    private static void few() {
        fault("corners 4;", 6, 10);
        fault("corners 4; \n", 6, 12);
        fault("corners 5;0 2;", 6, 14);
        fault("corners 9;0 2;0 3;0 4;0 5;0 6;  ", 6, 32);
    }

    private static void stays() {
        DiamondRows x = new DiamondRows();
        Check.cut(x, "corners 5;0 2;0 9;");
        CHECK.due("fault(0)", x.fault(0), 2);
        x.take(6, 3);
        x.flip(0, 2);
        Check.read(x, "1 2 3");
        CHECK.due("fault(0) of the latest cut()", x.fault(0), 2);
        CHECK.due("fault(1) of the latest cut()", x.fault(1), 16);
        Check.cut(x, "corners 4;0 2;");
        CHECK.due("fault(0) behind a good one", x.fault(0), 0);
        CHECK.due("fault(1) behind a good one", x.fault(1), DiamondRows.NONE);
    }

    private static void seen() {
        DiamondRows x = new DiamondRows();
        x.take(5, 0);
        x.see(7, 1, 3, 2);
        x.right(8, 0, 1);
        Check.cut(x, "corners 5;1 3;1 4;");
        CHECK.due("SEEN with as many corners", x.count(0), 1);
        CHECK.due("the latest STEP stays", x.see(7, 0, 2, 1), DiamondRows.RANGE);
        Check.cut(x, "corners 6;");
        CHECK.due("SEEN behind a FAULT", x.count(0), 1);
        Check.cut(x, "corners 4;0 2;");
        CHECK.due("SEEN with fewer corners", x.count(0), 0);
        CHECK.due("RIGHT with fewer corners", x.count(1), 0);
        CHECK.due("the latest STEP is 0", x.see(0, 0, 2, 1), 0);
        CHECK.due("puttings RIGHT begin anew", x.right(1, 0, 1), 1);
    }
}
