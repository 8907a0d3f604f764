import java.io.IOException;

/** Promises 1 to 5, sentence by sentence: a new object, THE TAPE, a CUT's text and its FAULTS. */
final class TapeEdgesTest {
    private static final int NONE = DiamondRows.NONE;
    private static final int RANGE = DiamondRows.RANGE;
    private static final int FULL = DiamondRows.FULL;
    private static Edges edges;

    public static void main(String[] args) throws IOException {
        edges = new Edges();
        newObject();
        feed();
        end();
        tokens();
        polygon();
        staysWithFault();
        seenBehindCut();
        faultOfTheLatest();
        firstFault();
        syntax();
        range();
        twice();
        next();
        cross();
        few();
        edges.finish(1, 5);
    }

    private static void newObject() {
        edges.says(1, "The CUT number 0 of four corners; the PERIOD is 1.");
        DiamondRows x = new DiamondRows();
        edges.due("told(0)", x.told(0), 4);
        edges.due("told(1)", x.told(1), 0);
        edges.due("entry(0, 2), its LINE", x.entry(0, 2), 1);
        edges.due("entry(1, 3), no LINE of it", x.entry(1, 3), 2);
        edges.due("told(3)", x.told(3), 1);
        edges.due("of(0)", x.of(0), 1);
        edges.due("of(1)", x.of(1), RANGE);
        for (int what = 0; what < 3; what++) {
            edges.due("count(" + what + ")", x.count(what), 0);
        }
        x.take(9, 5);
        x.feed(1, 2, 3, 4, 5);
        x.see(7, 0, 2, 1);
        DiamondRows y = new DiamondRows();
        edges.due("told(0) of another new one", y.told(0), 4);
        edges.due("count(2) of another new one", y.count(2), 0);
        edges.due("see(0, ..) of another new one", y.see(0, 0, 2, 1), 0);
        edges.says(1, "at most 512 calls");
        DiamondRows z = new DiamondRows();
        for (int call = 1; call < 512; call++) {
            edges.due("call " + call, z.take(4, call % 2), call % 2);
        }
        edges.due("call 512", z.told(1), 1);
    }

    private static void feed() {
        edges.says(2, "Twenty bytes come behind THE TAPE, the highest of each int first: how many it has");
        DiamondRows x = new DiamondRows();
        // "12 7", "8 9 ", "1 2 ", "3 4 ", "5 6 "
        edges.due("feed", x.feed(0x31322037, 0x38203920, 0x31203220, 0x33203420, 0x35203620), 20);
        edges.due("period(): 78 is no number of a PERIOD", x.period(), RANGE);
        x.feed(0x31322037, 0x20203920, 0x31203220, 0x33203420, 0x35203620);
        edges.due("period()", x.period(), 9);
        int[] want = {12, 7, 9, 1, 2, 3, 4, 5, 6};
        for (int i = 0; i < 9; i++) {
            edges.due("of(" + i + ")", x.of(i), want[i]);
        }
        edges.due("feed(-1, ..)", x.feed(-1, -1, -1, -1, -1), 20);
        edges.due("feed(least, most, ..)", x.feed(Integer.MIN_VALUE, Integer.MAX_VALUE, 0, -1, 1), 40);
        edges.says(2, "FULL when there would be more than 300");
        for (int left = 280; left <= 300; left++) {
            DiamondRows y = new DiamondRows();
            Check.tape(y, " ".repeat(left - 1) + "7");
            edges.due("feed behind " + left, y.feed(0x20202020, 0, 0, 0, 0), left == 280 ? 300 : FULL);
            edges.due("count(2)", y.count(2), left == 280 ? 300 : left);
            edges.due("end(" + left + ")", y.end(left), left);
            edges.due("the bytes are what they were", y.period() == 1 ? y.of(0) : RANGE, 7);
        }
    }

    private static void end() {
        edges.says(3, "THE TAPE has its first n bytes alone: n");
        DiamondRows x = new DiamondRows();
        Check.tape(x, "12 34 5");
        edges.due("end(7): all of it", x.end(7), 7);
        edges.due("end(4)", x.end(4), 4);
        edges.due("count(2)", x.count(2), 4);
        edges.due("period() of 12 3", x.period(), 2);
        edges.due("of(1)", x.of(1), 3);
        Check.tape(x, "12 34 5");
        edges.due("end(0)", x.end(0), 0);
        edges.due("count(2)", x.count(2), 0);
        edges.due("end(0) of nothing", x.end(0), 0);
        edges.says(3, "NONE when it has not so many, or n is below 0.");
        edges.due("end(1) of nothing", x.end(1), NONE);
        Check.tape(x, "1 2");
        for (int n : new int[] {4, 20, 300, 301, Integer.MAX_VALUE, -1, -3, Integer.MIN_VALUE}) {
            edges.due("end(" + n + ") of three", x.end(n), NONE);
            edges.due("count(2) stays", x.count(2), 3);
        }
        edges.due("period() of what stayed", x.period(), 2);
    }

    /** The number that a text tells, and that it has no FAULT. */
    private static void good(String text, int corners, int number) {
        DiamondRows x = new DiamondRows();
        edges.due("cut() of " + text, Check.cut(x, text), number);
        edges.due("told(0) of " + text, x.told(0), corners);
        edges.due("fault(0) of " + text, x.fault(0), 0);
        edges.due("fault(1) of " + text, x.fault(1), NONE);
        edges.due("count(2)", x.count(2), 0);
    }

    private static void tokens() {
        edges.says(4, "TOKENS with any blanks (32, 10) between");
        good("corners4;0 2;", 4, 0);
        good("corners 4 ; 0 2 ;", 4, 0);
        good("\n\ncorners\n4\n;\n\n0\n2;\n", 4, 0);
        good(" \n \ncorners4;1 3;" + " ".repeat(280), 4, 1);
        good(" ".repeat(287) + "corners4;0 2;", 4, 0);
        edges.says(4, "N (digits, as many as there are, 3 at most)");
        good("corners 004;000 002;", 4, 0);
        edges.says(4, "and the corners of LINES, either one first.");
        good("corners 5;2 0;3 0;", 5, 0);
        good("corners 5;3 0;0 2;", 5, 0);
        good("corners 5;0 3;2 0;", 5, 0);
        edges.says(4, "each call that reads it empties it, whatever it tells");
        for (String text : new String[] {"corners 4;0 2;", "corners 4;", "x", " ", ""}) {
            DiamondRows x = new DiamondRows();
            Check.cut(x, text);
            edges.due("count(2) behind cut() of " + text, x.count(2), 0);
            edges.due("cut() of an empty tape", x.cut(), NONE);
            edges.due("fault(0)", x.fault(0), 1);
            edges.due("fault(1)", x.fault(1), 0);
        }
    }

    private static void polygon() {
        edges.says(4, "the CUTS of n corners are numbered from 0 by their BITS, rising");
        // LINES of five corners: 0 (0 2), 1 (0 3), 2 (1 3), 3 (1 4), 4 (2 4). BITS 3, 6, 12, 17, 24.
        good("corners 5;0 2;0 3;", 5, 0);
        good("corners 5;0 3;1 3;", 5, 1);
        good("corners 5;1 3;1 4;", 5, 2);
        good("corners 5;0 2;2 4;", 5, 3);
        good("corners 5;1 4;2 4;", 5, 4);
        // LINES of six: 02 03 04 13 14 15 24 25 35. BITS 7 14 28 56 69 84 112 193 224 259 266 296 385 416.
        String[] six = {"0 2;0 3;0 4;", "0 3;0 4;1 3;", "0 4;1 3;1 4;", "1 3;1 4;1 5;", "0 2;0 4;2 4;", "0 4;1 4;2 4;",
            "1 4;1 5;2 4;", "0 2;2 4;2 5;", "1 5;2 4;2 5;", "0 2;0 3;3 5;", "0 3;1 3;3 5;", "1 3;1 5;3 5;",
            "0 2;2 5;3 5;", "1 5;2 5;3 5;"};
        for (int number = 0; number < six.length; number++) {
            good("corners 6;" + six[number], 6, number);
        }
        DiamondRows x = new DiamondRows();
        for (int number = 0; number < six.length; number++) {
            edges.due("cut() of " + six[number] + " behind others", Check.cut(x, "corners 6;" + six[number]), number);
        }
        Check.cut(x, "corners 6;1 3;3 5;x");
        edges.due("cut() behind a FAULT", Check.cut(x, "corners 6;1 3;3 5;1 5;"), 11);
        // The first six LINES are all at corner 0; the last LINES of the corners 1 to 6 are all at corner 8.
        good("corners 9;0 2;0 3;0 4;0 5;0 6;0 7;", 9, 0);
        good("corners 9;1 8;2 8;3 8;4 8;5 8;6 8;", 9, 428);
    }

    private static void staysWithFault() {
        edges.says(4, "NONE with a FAULT (it stays).");
        String[] one = {"x", "corners 3;", "corners 5;0 2;0 2;", "corners 5;0 1;", "corners 5;0 2;1 3;", "corners 5;0 2;"};
        for (int kind = 1; kind <= 6; kind++) {
            DiamondRows x = new DiamondRows();
            x.take(7, 30);
            x.see(9, 0, 2, 1);
            edges.due("cut() of " + one[kind - 1], Check.cut(x, one[kind - 1]), NONE);
            edges.due("fault(0)", x.fault(0), kind);
            edges.due("told(0)", x.told(0), 7);
            edges.due("told(1)", x.told(1), 30);
            edges.due("count(0)", x.count(0), 1);
            edges.due("the latest STEP of telling is still 9", x.see(8, 0, 2, 1), RANGE);
        }
    }

    private static void seenBehindCut() {
        edges.says(4, "With another number of corners than it had SEEN are none and the latest STEP of telling is 0 then.");
        for (String text : new String[] {"corners 4;0 2;", "corners 6;0 2;0 3;0 4;"}) {
            DiamondRows x = seenAtFive();
            Check.cut(x, text);
            edges.due("count(0)", x.count(0), 0);
            edges.due("count(1)", x.count(1), 0);
            edges.due("right() of what is none", x.right(999, 0, 1), RANGE);
            edges.due("see(0, ..)", x.see(0, 0, 2, 1), 0);
        }
        for (String text : new String[] {"corners 5;0 2;0 3;", "corners 5;1 4;2 4;"}) {
            DiamondRows x = seenAtFive();
            Check.cut(x, text);
            edges.due("count(0) with as many corners", x.count(0), 2);
            edges.due("count(1) with as many corners", x.count(1), 1);
            edges.due("see(40, ..), the STEP falls", x.see(40, 0, 2, 1), RANGE);
            edges.due("see(41, ..)", x.see(41, 0, 2, 1), 2);
        }
    }

    private static DiamondRows seenAtFive() {
        DiamondRows x = new DiamondRows();
        x.take(5, 0);
        x.see(3, 0, 2, 1);
        x.see(40, 1, 3, 2);
        x.right(41, 1, 1);
        return x;
    }

    private static void faultOfTheLatest() {
        edges.says(5, "its FAULT's KIND, 0 without (and ahead of any), 1: its PLACE (NONE).");
        DiamondRows x = new DiamondRows();
        edges.due("fault(0) ahead of any", x.fault(0), 0);
        edges.due("fault(1) ahead of any", x.fault(1), NONE);
        edges.says(5, "Of the latest cut()");
        Check.cut(x, "corners 4;0 1;");
        Check.read(x, "?");
        Check.mend(x, "?");
        Check.period(x, "?");
        x.take(8, 3);
        edges.due("fault(0) behind other calls", x.fault(0), 4);
        edges.due("fault(1) behind other calls", x.fault(1), 12);
        Check.cut(x, "corners 3;");
        edges.due("fault(0) of the next one", x.fault(0), 2);
        edges.due("fault(1) of the next one", x.fault(1), 8);
        edges.says(5, "NONE for another what.");
        for (int what : new int[] {-1, 2, 3, Integer.MIN_VALUE, Integer.MAX_VALUE}) {
            edges.due("fault(" + what + ")", x.fault(what), NONE);
        }
        Check.cut(x, "corners 4;0 2;");
        edges.due("fault(0) without", x.fault(0), 0);
        edges.due("fault(1) without", x.fault(1), NONE);
    }

    private static void fault(String text, int kind, int place) {
        DiamondRows x = new DiamondRows();
        edges.due("cut() of " + text, Check.cut(x, text), NONE);
        edges.due("fault(0) of " + text, x.fault(0), kind);
        edges.due("fault(1) of " + text, x.fault(1), place);
    }

    private static void firstFault() {
        edges.says(5, "the first come to as TOKENS are read one by one");
        fault("corners 3 x", 2, 8);
        fault("corners 5;5 x", 2, 10);
        fault("corners 5;0 1 x", 4, 12);
        fault("corners 5;0 2;0 2 x", 3, 16);
        fault("corners 5;0 2;1 3;9 9;", 5, 16);
        fault("corners 5;0 2;x", 1, 14);
        edges.says(5, "of one TOKEN the least KIND");
        fault("corners 5;0 2", 1, 13);
        fault("corners 1000;", 1, 8);
        fault("corners 5;1000 0;", 1, 10);
        fault("corners 5;0 1000;", 1, 12);
        edges.says(5, "(a TOKEN's first byte; the text's length at its end)");
        fault("corners  \n 12;", 2, 11);
        fault("corners 5;0 \n 004;", 4, 14);
        fault("corners 5;0 2;1  003;", 5, 17);
        fault("corners 5;0 2; \n ", 6, 17);
        fault("corners 5;" + " ".repeat(290), 6, 300);
        fault(" ".repeat(300), 1, 300);
        fault(" ".repeat(299) + "x", 1, 299);
    }

    private static void syntax() {
        edges.says(5, "1 SYNTAX: a TOKEN (or byte that is none, a run that is too long) with which no text goes on.");
        String[] tokens = {"x", "cornersx", "corners", ";", "7", "?", "corners".repeat(2), "0007", ""};
        // What a text may go on with, by tokens' places: none ahead of it, then each after the head of a text.
        String[] heads = {"", "corners ", "corners 6 ", "corners 6;", "corners 6;0 ", "corners 6;0 2 ", "corners 6;0 2; "};
        String[] fine = {"corners", "7", ";", "7", "7", ";", "7"};
        for (int at = 0; at < heads.length; at++) {
            boolean mayEnd = at == 3 || at == 6;
            for (String token : tokens) {
                if (!token.equals(fine[at]) && !(token.isEmpty() && mayEnd)) {
                    fault(heads[at] + token, 1, heads[at].length());
                }
            }
        }
        edges.says(5, "WORDS (small letters, as many as there are, 8 at most)");
        fault("cornersa 4;0 2;", 1, 0);
        fault("cornersab 4;0 2;", 1, 0);
        fault("corner 4;0 2;", 1, 0);
        fault("corner s 4;0 2;", 1, 0);
        fault("cornersz 4;0 2;", 1, 0);
        fault("dorners 4;0 2;", 1, 0);
        fault("cornars 4;0 2;", 1, 0);
        fault("cornert 4;0 2;", 1, 0);
        fault("CORNERS 4;0 2;", 1, 0);
        fault("cornerS 4;0 2;", 1, 0);
        edges.says(5, "blanks (32, 10)");
        for (int sign = 0; sign < 256; sign++) {
            boolean goesOn = sign == 32 || sign == 10;
            if (!goesOn) {
                fault("corners 4;0 2;" + (char) sign, sign >= '0' && sign <= '9' ? sign < '4' ? 1 : 2 : 1,
                    sign >= '0' && sign < '4' ? 15 : 14);
            } else {
                good("corners 4;0 2;" + (char) sign, 4, 0);
            }
        }
    }

    private static void range() {
        edges.says(5, "2 RANGE: n, a corner that is none.");
        for (int n = 0; n < 4; n++) {
            fault("corners " + n, 2, 8);
        }
        fault("corners 10;", 2, 8);
        fault("corners 999;", 2, 8);
        for (int n = 4; n <= 9; n++) {
            fault("corners " + n + ";" + n, 2, 10);
            fault("corners " + n + ";0 " + n, 2, 12);
            fault("corners " + n + ";" + (n - 1) + " 999", 2, 12);
        }
    }

    private static void twice() {
        edges.says(5, "3 TWICE: the second corner of a LINE that was told.");
        fault("corners 4;0 2;0 2;", 3, 16);
        fault("corners 4;0 2;2 0;", 3, 16);
        fault("corners 4;2 0;0 2;", 3, 16);
        fault("corners 6;0 2;0 3;2 0;", 3, 20);
    }

    private static void next() {
        edges.says(5, "4 NEXT: a second corner that is the first one, or next to it.");
        for (int n = 4; n <= 9; n++) {
            for (int c = 0; c < n; c++) {
                fault("corners " + n + ";" + c + " " + c, 4, 12);
                fault("corners " + n + ";" + c + " " + (c + 1) % n, 4, 12);
                fault("corners " + n + ";" + c + " " + (c + n - 1) % n, 4, 12);
            }
        }
        // All LINES were told, and none of them crosses what is next to a corner.
        fault("corners 4;0 2;3 0;", 4, 16);
    }

    private static void cross() {
        edges.says(5, "5 CROSS: the second corner of a LINE that crosses one that was told.");
        fault("corners 4;0 2;1 3;", 5, 16);
        fault("corners 4;0 2;3 1;", 5, 16);
        fault("corners 4;1 3;2 0;", 5, 16);
        fault("corners 9;0 4;3 8;", 5, 16);
        fault("corners 9;3 8;0 4;", 5, 16);
        fault("corners 9;0 4;5 7;3 6;", 5, 20);
        edges.says(5, "LINES CROSS, if they have no corner in common, and of the corners of one just one lies strictly between");
        // One corner in common; none between; both between.
        fault("corners 9;0 4;4 8;", 6, 18);
        fault("corners 9;0 4;0 2;", 6, 18);
        fault("corners 9;0 4;5 7;", 6, 18);
        fault("corners 9;0 4;1 3;", 6, 18);
    }

    private static void few() {
        edges.says(5, "6 FEW: the end of the text with fewer than n - 3 LINES.");
        for (int n = 4; n <= 9; n++) {
            StringBuilder text = new StringBuilder("corners " + n + ";");
            for (int c = 2; c < n - 1; c++) {
                fault(text.toString(), 6, text.length());
                text.append("0 ").append(c).append(";");
            }
            good(text.toString(), n, 0);
        }
    }
}
