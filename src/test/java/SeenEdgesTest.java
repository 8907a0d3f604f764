import java.io.IOException;

/** Promises 34 to 39, sentence by sentence: what was SEEN, put RIGHT and FITS, what to ASK, and counts. */
final class SeenEdgesTest {
    private static final int NONE = DiamondRows.NONE;
    private static final int RANGE = DiamondRows.RANGE;
    private static final int FULL = DiamondRows.FULL;
    private static final int LEAST = Integer.MIN_VALUE;
    private static final int MOST = Integer.MAX_VALUE;
    private static Edges edges;

    public static void main(String[] args) throws IOException {
        edges = new Edges();
        see();
        seeRefused();
        seeFull();
        right();
        rightRefused();
        rightFull();
        fit();
        fitRefused();
        surely();
        surelyRefused();
        ask();
        askNone();
        count();
        edges.finish(34, 39);
    }

    private static DiamondRows five() {
        DiamondRows x = new DiamondRows();
        x.take(5, 0);
        return x;
    }

    private static void see() {
        edges.says(34, "An entry was SEEN at a STEP: v (0 .. 9999) for two unlike corners: its number");
        DiamondRows x = five();
        edges.due("see(0, 0, 1, 0)", x.see(0, 0, 1, 0), 0);
        edges.due("see(0, 4, 0, 9999)", x.see(0, 4, 0, 9999), 1);
        edges.due("see(0, 2, 4, 1), the same STEP", x.see(0, 2, 4, 1), 2);
        edges.due("see(0, 4, 2, 1), the same corners", x.see(0, 4, 2, 1), 3);
        edges.due("see(999, 0, 2, 1)", x.see(999, 0, 2, 1), 4);
        edges.due("see(999, 0, 3, 1)", x.see(999, 0, 3, 1), 5);
        edges.due("count(0)", x.count(0), 6);
    }

    private static void seeRefused() {
        edges.says(34, "RANGE: no such STEP, corners, v");
        DiamondRows x = five();
        edges.due("see(50, ..)", x.see(50, 0, 2, 1), 0);
        for (int told : new int[] {1000, -1, LEAST, MOST}) {
            edges.due("see(" + told + ", ..)", x.see(told, 0, 2, 1), RANGE);
        }
        for (int wrong : new int[] {5, -1, LEAST, MOST}) {
            edges.due("see(50, 0, " + wrong + ", 1)", x.see(50, 0, wrong, 1), RANGE);
            edges.due("see(50, " + wrong + ", 0, 1)", x.see(50, wrong, 0, 1), RANGE);
        }
        for (int c = 0; c < 5; c++) {
            edges.due("see(50, " + c + ", itself, 0)", x.see(50, c, c, 0), RANGE);
        }
        for (int v : new int[] {10000, -1, LEAST, MOST}) {
            edges.due("see(50, 0, 2, " + v + ")", x.see(50, 0, 2, v), RANGE);
        }
        edges.says(34, "(0 .. 999, never falling)");
        edges.due("see(49, ..)", x.see(49, 0, 2, 1), RANGE);
        edges.due("see(0, ..)", x.see(0, 0, 2, 1), RANGE);
        // What was refused moved no STEP on.
        x.see(70, 0, 0, 1);
        x.see(70, 0, 2, 10000);
        edges.due("see(50, ..)", x.see(50, 0, 2, 1), 1);
        x.right(60, 0, 1);
        edges.due("see(59, ..): puttings RIGHT are told too", x.see(59, 0, 2, 1), RANGE);
        edges.due("see(60, ..)", x.see(60, 0, 2, 1), 2);
        edges.due("count(0)", x.count(0), 3);
    }

    private static void seeFull() {
        edges.says(34, "SEEN, at most 20, numbered from 0");
        DiamondRows x = five();
        for (int k = 0; k < 20; k++) {
            edges.due("see(" + k + ", ..)", x.see(k, 0, 2, 1), k);
        }
        edges.due("see(19, ..), one more", x.see(19, 0, 2, 1), FULL);
        edges.due("see(30, ..), one more", x.see(30, 0, 2, 1), FULL);
        edges.due("see(18, ..), no such STEP", x.see(18, 0, 2, 1), RANGE);
        edges.due("count(0)", x.count(0), 20);
        edges.due("right(20, ..): FULL moved no STEP on", x.right(20, 19, 1), 1);
        x.take(5, 4);
        edges.due("see(20, ..) with as many corners", x.see(20, 0, 2, 1), FULL);
        x.take(4, 0);
        edges.due("see(0, ..) with other corners", x.see(0, 0, 2, 1), 0);
    }

    private static void right() {
        edges.says(35, "One that was SEEN is put RIGHT at a STEP: how often it was");
        DiamondRows x = five();
        x.see(0, 0, 2, 1);
        x.see(0, 1, 3, 1);
        edges.due("right(1, 1, 0)", x.right(1, 1, 0), 1);
        edges.due("right(1, 1, 9999)", x.right(1, 1, 9999), 2);
        edges.due("right(1, 0, 2)", x.right(1, 0, 2), 1);
        edges.due("right(999, 1, 3)", x.right(999, 1, 3), 3);
        edges.due("right(999, 0, 3)", x.right(999, 0, 3), 2);
        edges.due("count(1)", x.count(1), 5);
        edges.due("count(0)", x.count(0), 2);
    }

    private static void rightRefused() {
        edges.says(35, "how often it was; RANGE; FULL.");
        DiamondRows x = five();
        edges.due("right(1, 0, 1) with nothing SEEN", x.right(1, 0, 1), RANGE);
        x.see(10, 0, 2, 1);
        for (int k : new int[] {1, -1, LEAST, MOST}) {
            edges.due("right(11, " + k + ", 1)", x.right(11, k, 1), RANGE);
        }
        for (int v : new int[] {10000, -1, LEAST, MOST}) {
            edges.due("right(11, 0, " + v + ")", x.right(11, 0, v), RANGE);
        }
        for (int told : new int[] {1000, -1, LEAST, MOST}) {
            edges.due("right(" + told + ", 0, 1)", x.right(told, 0, 1), RANGE);
        }
        edges.due("count(1)", x.count(1), 0);
        edges.says(35, "(0 .. 999, never falling)");
        edges.due("right(9, 0, 1)", x.right(9, 0, 1), RANGE);
        edges.due("right(12, 0, 1)", x.right(12, 0, 1), 1);
        edges.due("right(11, 0, 1)", x.right(11, 0, 1), RANGE);
        x.see(20, 1, 3, 1);
        edges.due("right(19, 0, 1)", x.right(19, 0, 1), RANGE);
        edges.due("right(20, 0, 1)", x.right(20, 0, 1), 2);
        edges.says(35, "perhaps put RIGHT at a later one");
        edges.due("right(20, 1, 1): the STEP at which it was told", x.right(20, 1, 1), RANGE);
        edges.due("right(21, 1, 1)", x.right(21, 1, 1), 1);
        x.see(999, 2, 4, 1);
        edges.due("right(999, 2, 1): there is no later one", x.right(999, 2, 1), RANGE);
        edges.due("count(1)", x.count(1), 3);
    }

    private static void rightFull() {
        edges.says(35, "(20 times at most in all)");
        DiamondRows x = five();
        x.see(0, 0, 2, 1);
        x.see(0, 1, 3, 1);
        for (int time = 1; time <= 10; time++) {
            edges.due("right(" + time + ", 0, 1)", x.right(time, 0, 1), time);
            edges.due("right(" + time + ", 1, 1)", x.right(time, 1, 1), time);
        }
        edges.due("right(10, 0, 1), one more", x.right(10, 0, 1), FULL);
        edges.due("right(30, 1, 1), one more", x.right(30, 1, 1), FULL);
        edges.due("right(30, 2, 1), no such SEEN", x.right(30, 2, 1), RANGE);
        edges.due("count(1)", x.count(1), 20);
        edges.due("see(10, ..): FULL moved no STEP on", x.see(10, 0, 2, 1), 2);
        edges.due("right(11, 2, 1), in all", x.right(11, 2, 1), FULL);
        x.take(6, 0);
        x.see(0, 0, 2, 1);
        edges.due("right(1, 0, 1) with other corners", x.right(1, 0, 1), 1);
    }

    private static void fits(DiamondRows x, int known, int many, int least) {
        edges.due("fit(" + known + ", 0)", x.fit(known, 0), many);
        edges.due("fit(" + known + ", 1)", x.fit(known, 1), least);
    }

    private static void fit() {
        edges.says(36, "all CUTS of as many corners whose FRIEZE has all entries that are known then so");
        int[] counts = {2, 5, 14, 42, 132, 429};
        for (int n = 4; n <= 9; n++) {
            DiamondRows x = new DiamondRows();
            x.take(n, 1);
            fits(x, 0, counts[n - 4], 0);
            fits(x, 999, counts[n - 4], 0);
            x.see(5, 0, n - 1, 1);
            fits(x, 5, counts[n - 4], 0);
            x.see(6, 0, n - 1, 2);
            fits(x, 5, counts[n - 4], 0);
            fits(x, 6, 0, NONE);
            x.right(8, 1, 1);
            fits(x, 7, 0, NONE);
            fits(x, 8, counts[n - 4], 0);
            // All LINES are at the last corner.
            x.see(9, n - 2, 0, n - 2);
            fits(x, 9, 1, counts[n - 4] - 1);
            edges.due("told(1) stays", x.told(1), 1);
        }
        DiamondRows x = five();
        // LINES by numbers: 02 03, 03 13, 13 14, 02 24, 14 24. The entry of 0 2 by them: 1 2 3 1 2.
        x.see(1, 2, 0, 2);
        x.see(3, 1, 3, 2);
        x.right(5, 0, 3);
        x.right(5, 0, 1);
        x.right(7, 1, 3);
        fits(x, 0, 5, 0);
        fits(x, 1, 2, 1);
        fits(x, 2, 2, 1);
        // The entry of 1 3 by numbers: 2 1 1 3 2.
        fits(x, 3, 1, 4);
        fits(x, 4, 1, 4);
        // Of two puttings RIGHT at one STEP the later one is known.
        fits(x, 5, 1, 0);
        fits(x, 6, 1, 0);
        fits(x, 7, 1, 3);
        fits(x, 999, 1, 3);
    }

    private static void fitRefused() {
        edges.says(36, "what 0: how many CUTS, 1: the least number of them (NONE); RANGE.");
        DiamondRows x = five();
        for (int known : new int[] {1000, -1, LEAST, MOST}) {
            edges.due("fit(" + known + ", 0)", x.fit(known, 0), RANGE);
            edges.due("fit(" + known + ", 1)", x.fit(known, 1), RANGE);
        }
        for (int what : new int[] {2, -1, LEAST, MOST}) {
            edges.due("fit(0, " + what + ")", x.fit(0, what), RANGE);
        }
        x.see(0, 0, 2, 0);
        fits(x, 0, 0, NONE);
        x.right(1, 0, 9999);
        fits(x, 1, 0, NONE);
    }

    private static void surely() {
        edges.says(37, "1 if all FIT have it, 0 if none, 2 else; NONE: none FIT");
        DiamondRows x = five();
        edges.due("surely(0, 2, 0), nothing known", x.surely(0, 2, 0), 2);
        x.see(1, 0, 2, 1);
        edges.due("surely(0, 2, 0)", x.surely(0, 2, 0), 2);
        edges.due("surely(0, 2, 1)", x.surely(0, 2, 1), 1);
        edges.due("surely(2, 0, 999)", x.surely(2, 0, 999), 1);
        edges.due("surely(3, 1, 1), it crosses that one", x.surely(3, 1, 1), 0);
        edges.due("surely(2, 4, 1)", x.surely(2, 4, 1), 2);
        x.see(2, 1, 4, 1);
        edges.due("surely(0, 2, 2)", x.surely(0, 2, 2), NONE);
        edges.due("surely(1, 3, 2)", x.surely(1, 3, 2), NONE);
        x.right(3, 0, 2);
        // 14 24 alone has 2 there and the LINE of 1 and 4.
        edges.due("surely(2, 4, 3)", x.surely(2, 4, 3), 1);
        edges.due("surely(1, 3, 3)", x.surely(1, 3, 3), 0);
        edges.due("surely(0, 2, 1), as known then", x.surely(0, 2, 1), 1);
    }

    private static void surelyRefused() {
        edges.says(37, "RANGE: no such STEP, LINE.");
        DiamondRows x = five();
        x.see(1, 0, 2, 0);
        for (int known = 0; known < 2; known++) {
            for (int c = 0; c < 5; c++) {
                edges.due("surely(" + c + ", itself, ..)", x.surely(c, c, known), RANGE);
                edges.due("surely(" + c + ", the next one, ..)", x.surely(c, (c + 1) % 5, known), RANGE);
                edges.due("surely(the next one, " + c + ", ..)", x.surely((c + 1) % 5, c, known), RANGE);
            }
            for (int wrong : new int[] {5, -1, LEAST, MOST}) {
                edges.due("surely(0, " + wrong + ", ..)", x.surely(0, wrong, known), RANGE);
                edges.due("surely(" + wrong + ", 0, ..)", x.surely(wrong, 0, known), RANGE);
            }
        }
        for (int known : new int[] {1000, -1, LEAST, MOST}) {
            edges.due("surely(0, 2, " + known + ")", x.surely(0, 2, known), RANGE);
        }
    }

    private static void ask() {
        edges.says(38, "those for which the most FIT that agree in their entry are fewest");
        DiamondRows x = new DiamondRows();
        edges.due("ask(0) of four corners", x.ask(0), 2);
        x = five();
        // Each two apart: two CUTS with 1, two with 2, one with 3.
        edges.due("ask(0) of five corners", x.ask(0), 2);
        x.take(6, 0);
        // Apart by one corner: 5 CUTS with 1, 5 with 2, 3 with 3, 1 with 4. By two: 4 each with 1, 2, 3; 2 with 5.
        edges.due("spread(0, 2, 1)", x.spread(0, 2, 1), 5);
        edges.due("spread(0, 3, 1)", x.spread(0, 3, 1), 4);
        edges.due("ask(0) of six corners", x.ask(0), 3);
        edges.says(38, "(by the lesser, then the greater one)");
        x = five();
        x.see(4, 1, 3, 1);
        edges.due("ask(3), not yet known", x.ask(3), 2);
        // 03 13 and 13 14 are left: 0 2 tells them apart (2 and 3).
        edges.due("ask(4)", x.ask(4), 2);
        x = five();
        x.see(4, 2, 0, 1);
        // 02 03 and 02 24 are left: 0 3 is the first to tell them apart.
        edges.due("ask(4) with 0 2 known", x.ask(4), 3);
        edges.due("ask(999) with 0 2 known", x.ask(999), 3);
        x = new DiamondRows();
        x.take(6, 0);
        x.see(0, 0, 2, 1);
        x.see(0, 0, 3, 1);
        // 02 03 04 and 02 03 35 are left: 0 4 and not 0 5, which are next to each other.
        edges.due("ask(0) with 0 2 and 0 3 known", x.ask(0), 4);
        x.right(1, 1, 2);
        // 0 2 3 4 5 with 2 at (0, 3), so as a pentagon 0 2 3 4 5: its row at 2 is 2: 04 24 and 25 35 are left.
        edges.due("fit(1, 0)", x.fit(1, 0), 2);
        edges.due("ask(1)", x.ask(1), 4);
    }

    private static void askNone() {
        edges.says(38, "none if all FIT agree in all");
        DiamondRows x = five();
        x.see(1, 0, 2, 3);
        edges.due("ask(1), one FITS", x.ask(1), NONE);
        x.see(2, 0, 2, 1);
        edges.due("ask(2), none FIT", x.ask(2), NONE);
        edges.due("ask(0), all FIT", x.ask(0), 2);
        edges.says(38, "and the greater one; NONE; RANGE.");
        for (int known : new int[] {1000, -1, LEAST, MOST}) {
            edges.due("ask(" + known + ")", x.ask(known), RANGE);
        }
    }

    private static void count() {
        edges.says(39, "What 0: SEEN, 1: puttings RIGHT, 2: bytes of THE TAPE.");
        DiamondRows x = five();
        x.see(0, 0, 2, 1);
        x.see(0, 0, 3, 1);
        x.see(0, 0, 4, 1);
        x.right(1, 0, 1);
        x.right(1, 0, 2);
        Check.tape(x, "corners");
        edges.due("count(0)", x.count(0), 3);
        edges.due("count(1)", x.count(1), 2);
        edges.due("count(2)", x.count(2), 7);
        edges.says(39, "NONE for others.");
        for (int what : new int[] {3, -1, LEAST, MOST}) {
            edges.due("count(" + what + ")", x.count(what), NONE);
        }
    }
}
