/** Promises 34 to 38: what was SEEN, put RIGHT, FITS as known at a STEP, and ASK. */
final class SeenTest {
    private static final Check CHECK = new Check();

    public static void main(String[] args) {
        see();
        right();
        full();
        known();
        surely();
        ask();
        CHECK.finish();
    }

    private static void see() {
        DiamondRows x = new DiamondRows();
        x.take(5, 0);
        CHECK.due("see(0, 0, 2, 0)", x.see(0, 0, 2, 0), 0);
        CHECK.due("see(0, 4, 1, 9999)", x.see(0, 4, 1, 9999), 1);
        CHECK.due("see(5, 0, 1, 1)", x.see(5, 0, 1, 1), 2);
        CHECK.due("a STEP that falls", x.see(4, 0, 2, 1), DiamondRows.RANGE);
        CHECK.due("a STEP below 0", x.see(-1, 0, 2, 1), DiamondRows.RANGE);
        CHECK.due("a STEP above 999", x.see(1000, 0, 2, 1), DiamondRows.RANGE);
        CHECK.due("corners alike", x.see(5, 2, 2, 0), DiamondRows.RANGE);
        CHECK.due("no corner", x.see(5, 0, 5, 1), DiamondRows.RANGE);
        CHECK.due("no corner", x.see(5, -1, 2, 1), DiamondRows.RANGE);
        CHECK.due("v below 0", x.see(5, 0, 2, -1), DiamondRows.RANGE);
        CHECK.due("v above 9999", x.see(5, 0, 2, 10000), DiamondRows.RANGE);
        CHECK.due("a wrong one with a later STEP", x.see(900, 0, 2, 10000), DiamondRows.RANGE);
        CHECK.due("it did not move the STEP on", x.see(5, 0, 2, 1), 3);
        CHECK.due("see(999, ..)", x.see(999, 0, 2, 1), 4);
        CHECK.due("see(998, ..)", x.see(998, 0, 2, 1), DiamondRows.RANGE);
        CHECK.due("count(0)", x.count(0), 5);
    }

    private static void right() {
        DiamondRows x = new DiamondRows();
        x.take(5, 0);
        CHECK.due("right() with nothing SEEN", x.right(0, 0, 1), DiamondRows.RANGE);
        x.see(3, 0, 2, 2);
        x.see(3, 0, 3, 2);
        CHECK.due("the STEP of telling is no later one", x.right(3, 1, 1), DiamondRows.RANGE);
        CHECK.due("right(4, 1, 1)", x.right(4, 1, 1), 1);
        CHECK.due("right(4, 1, 2)", x.right(4, 1, 2), 2);
        CHECK.due("right(6, 0, 9999)", x.right(6, 0, 9999), 1);
        CHECK.due("right(7, 1, 0)", x.right(7, 1, 0), 3);
        CHECK.due("a STEP that falls", x.right(6, 1, 0), DiamondRows.RANGE);
        CHECK.due("see() falls behind right()", x.see(6, 0, 2, 1), DiamondRows.RANGE);
        CHECK.due("a STEP above 999", x.right(1000, 1, 0), DiamondRows.RANGE);
        CHECK.due("no such SEEN", x.right(7, 2, 0), DiamondRows.RANGE);
        CHECK.due("no such SEEN", x.right(7, -1, 0), DiamondRows.RANGE);
        CHECK.due("v below 0", x.right(7, 0, -1), DiamondRows.RANGE);
        CHECK.due("v above 9999", x.right(7, 0, 10000), DiamondRows.RANGE);
        CHECK.due("count(1)", x.count(1), 4);
        CHECK.due("see(7, ..)", x.see(7, 0, 2, 1), 2);
    }

    private static void full() {
        DiamondRows x = new DiamondRows();
        x.take(9, 0);
        for (int k = 0; k < 20; k++) {
            CHECK.due("see() of " + k, x.see(k, 0, 2, 1), k);
        }
        CHECK.due("one more", x.see(20, 0, 2, 1), DiamondRows.FULL);
        CHECK.due("a wrong one more", x.see(20, 0, 0, 1), DiamondRows.RANGE);
        CHECK.due("FULL did not move the STEP on", x.right(19, 18, 1), 1);
        CHECK.due("the STEP of its own telling", x.right(19, 19, 1), DiamondRows.RANGE);
        for (int k = 2; k <= 20; k++) {
            CHECK.due("right() the time " + k, x.right(30 + k, 3, 1), k - 1);
        }
        CHECK.due("once more", x.right(60, 3, 1), DiamondRows.FULL);
        CHECK.due("a wrong one more", x.right(60, 20, 1), DiamondRows.RANGE);
        CHECK.due("count(0)", x.count(0), 20);
        CHECK.due("count(1)", x.count(1), 20);
        CHECK.due("fit(999, 0)", x.fit(999, 0), 132);
        x.take(8, 0);
        CHECK.due("room again", x.see(0, 0, 2, 1), 0);
        CHECK.due("room again", x.right(1, 0, 1), 1);
    }

    private static void known() {
        DiamondRows x = new DiamondRows();
        x.take(5, 0);
        x.see(2, 3, 1, 2);
        x.see(4, 0, 2, 2);
        x.right(6, 1, 1);
        x.right(8, 0, 1);
        // By numbers: 02+03, 03+13, 13+14, 02+24, 14+24.
        fits(x, 0, 5, 0);
        fits(x, 1, 5, 0);
        fits(x, 2, 2, 0);
        fits(x, 3, 2, 0);
        fits(x, 4, 1, 4);
        fits(x, 5, 1, 4);
        fits(x, 6, 1, 0);
        fits(x, 8, 0, DiamondRows.NONE);
        fits(x, 999, 0, DiamondRows.NONE);
        CHECK.due("fit(-1, 0)", x.fit(-1, 0), DiamondRows.RANGE);
        CHECK.due("fit(1000, 0)", x.fit(1000, 0), DiamondRows.RANGE);
        CHECK.due("fit(0, 2)", x.fit(0, 2), DiamondRows.RANGE);
        CHECK.due("fit(0, -1)", x.fit(0, -1), DiamondRows.RANGE);
        x.take(5, 3);
        fits(x, 4, 1, 4);
        CHECK.due("told(1) stays", x.told(1), 3);
    }

    private static void fits(DiamondRows x, int known, int many, int least) {
        CHECK.due("fit(" + known + ", 0)", x.fit(known, 0), many);
        CHECK.due("fit(" + known + ", 1)", x.fit(known, 1), least);
    }

    private static void surely() {
        DiamondRows x = new DiamondRows();
        x.take(5, 0);
        x.see(1, 1, 3, 3);
        x.see(2, 1, 3, 1);
        CHECK.due("nothing known", x.surely(1, 3, 0), 2);
        // No CUT has both a 3 there and a 1.
        CHECK.due("none FIT", x.surely(1, 3, 2), DiamondRows.NONE);
        x.right(3, 0, 1);
        CHECK.due("all FIT have it", x.surely(3, 1, 3), 1);
        CHECK.due("none has it", x.surely(0, 2, 3), 0);
        CHECK.due("some have it", x.surely(1, 4, 3), 2);
        CHECK.due("a STEP beyond", x.surely(1, 3, 999), 1);
        CHECK.due("next to each other", x.surely(0, 1, 3), DiamondRows.RANGE);
        CHECK.due("next to each other", x.surely(4, 0, 2), DiamondRows.RANGE);
        CHECK.due("alike", x.surely(2, 2, 3), DiamondRows.RANGE);
        CHECK.due("no corner", x.surely(0, 5, 3), DiamondRows.RANGE);
        CHECK.due("no corner", x.surely(-1, 2, 3), DiamondRows.RANGE);
        CHECK.due("no STEP", x.surely(0, 2, -1), DiamondRows.RANGE);
        CHECK.due("no STEP", x.surely(0, 2, 1000), DiamondRows.RANGE);
    }

    private static void ask() {
        DiamondRows x = new DiamondRows();
        CHECK.due("ask(0) of four corners", x.ask(0), 2);
        CHECK.due("ask(-1)", x.ask(-1), DiamondRows.RANGE);
        CHECK.due("ask(1000)", x.ask(1000), DiamondRows.RANGE);
        x.see(1, 1, 3, 2);
        CHECK.due("one alone FITS", x.ask(1), DiamondRows.NONE);
        CHECK.due("ahead of it", x.ask(0), 2);
        x.see(2, 1, 3, 7);
        CHECK.due("none FITS", x.ask(2), DiamondRows.NONE);
        // Five corners: of each two apart 2 CUTS have 1, 2 have 2, one has 3. The first two corners apart.
        x.take(5, 0);
        CHECK.due("ask(0) of five corners", x.ask(0), 2);
        x.see(0, 0, 2, 2);
        // 03+13 and 14+24 are left: they agree in 0 2 alone, and differ first in 0 3.
        CHECK.due("fit(0, 0)", x.fit(0, 0), 2);
        CHECK.due("ask(0)", x.ask(0), 3);
        x.take(9, 0);
        CHECK.holds("ask(0) of nine corners is a LINE", x.surely(x.ask(0) / 16, x.ask(0) % 16, 0) == 2);
    }
}
