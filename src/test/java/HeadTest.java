import java.io.IOException;
import java.lang.reflect.Method;
import java.lang.reflect.Modifier;
import java.nio.file.Files;
import java.nio.file.Path;
import java.util.ArrayList;
import java.util.Arrays;
import java.util.Collections;
import java.util.List;
import java.util.TreeSet;
import java.util.regex.Matcher;
import java.util.regex.Pattern;
import java.util.stream.Collectors;

/** What the document says ahead of its promises: its first lines, the public face, and the Terms I to IV. */
final class HeadTest {
    private static final int NONE = DiamondRows.NONE;
    private static final int RANGE = DiamondRows.RANGE;
    private static final int[] COUNTS = {2, 5, 14, 42, 132, 429};
    private static Edges edges;

    public static void main(String[] args) throws IOException {
        edges = new Edges();
        diamonds();
        countedByWays();
        longUse();
        face();
        groups();
        numbering();
        texts();
        flipsGoBack();
        turning();
        straightWays();
        withoutEnd();
        rounds();
        gluedAndCutOff();
        cutsNobodyShows();
        edges.finish(1, 1);
    }

    private static void diamonds() {
        edges.says(9, "rows of whole numbers in which of each diamond the two products differ by one");
        DiamondRows x = new DiamondRows();
        for (int n = 4; n <= 9; n++) {
            for (int number = 0; number < COUNTS[n - 4]; number++) {
                x.take(n, number);
                for (int i = 0; i < n; i++) {
                    for (int on = 1; on < n; on++) {
                        int next = (i + 1) % n;
                        int j = (i + on) % n;
                        int behind = (j + 1) % n;
                        edges.due("the diamond of " + i + " and " + j + " in CUT " + number + " of " + n,
                            x.entry(i, j) * x.entry(next, behind) - x.entry(next, j) * x.entry(i, behind), 1);
                    }
                }
            }
        }
    }

    private static void countedByWays() {
        edges.says(11, "each entry counted by ways through the triangles");
        DiamondRows x = new DiamondRows();
        for (int n = 4; n <= 9; n++) {
            for (int number = 0; number < COUNTS[n - 4]; number += n < 8 ? 1 : 13) {
                x.take(n, number);
                for (int i = 0; i < n; i++) {
                    for (int on = 0; on < n; on++) {
                        int j = (i + on) % n;
                        int corner = (i + 1) % n;
                        int entry = x.entry(i, j);
                        if (on > 1) {
                            edges.holds("the last WAY", x.way(i, j, entry - 1, corner) >= 0);
                        }
                        edges.due("no WAY more", x.way(i, j, entry, corner), RANGE);
                    }
                }
            }
        }
    }

    /** 512 calls that change much and ask for much; then a new object by the same calls. */
    private static void longUse() {
        edges.says(1, "An object is used for at most 512 calls after it has been made");
        long[] first = answers();
        long[] second = answers();
        edges.due("calls", first.length, 512);
        edges.holds("the same calls, the same answers", Arrays.equals(first, second));
        edges.due("the 512th call", first[511], 42);
    }

    private static long[] answers() {
        DiamondRows x = new DiamondRows();
        long[] got = new long[512];
        for (int call = 0; call < 511; call++) {
            switch (call % 8) {
                case 0 -> got[call] = x.feed(0x31203120, 0x32203320, 0x34203520, 0x31203920, 0x20202020);
                case 1 -> got[call] = x.take(4 + call % 6, call % 2);
                case 2 -> got[call] = x.fewest(call % 14);
                case 3 -> got[call] = x.see(call, 0, 2, 1 + call % 3);
                case 4 -> got[call] = x.ask(999);
                case 5 -> got[call] = call % 3 == 0 ? x.period() : x.mend();
                case 6 -> got[call] = x.glue(0);
                default -> got[call] = call % 5 == 0 ? x.take(7, 41) : x.growth();
            }
        }
        x.take(7, 0);
        got[511] = x.told(2);
        return got;
    }

    private static void face() throws IOException {
        edges.says(1, "## The public face");
        Path document = Path.of("../shared/DOC.md");
        if (!Files.isReadable(document)) {
            return;
        }
        Matcher m = Pattern.compile("(?m)^    public (int|long) (\\w+)\\((.*)\\);$").matcher(Files.readString(document));
        TreeSet<String> want = new TreeSet<>();
        while (m.find()) {
            want.add(m.group(1) + " " + m.group(2) + "(" + m.group(3).replaceAll(" \\w+(?=,|$)", "").replace(", ", ",") + ")");
        }
        edges.due("methods of the document", want.size(), 38);
        TreeSet<String> got = new TreeSet<>();
        for (Method method : DiamondRows.class.getDeclaredMethods()) {
            if (Modifier.isPublic(method.getModifiers())) {
                got.add(method.getReturnType() + " " + method.getName() + Arrays.stream(method.getParameterTypes())
                    .map(Class::getName).collect(Collectors.joining(",", "(", ")")));
            }
        }
        edges.holds(got + " are " + want, got.equals(want));
    }

    /** The source tells the calls in the document's order, with its headings ahead of them. */
    private static void groups() throws IOException {
        String source = Files.readString(Path.of("src/main/java/DiamondRows.java"));
        Matcher m = Pattern.compile("(?m)^    (?:public (?:int|long) (\\w+)\\(|// (---- .*)$)").matcher(source);
        List<String> order = new ArrayList<>();
        while (m.find()) {
            order.add(m.group(1) == null ? m.group(2) : m.group(1));
        }
        edges.says(4, "the interface says: ---- cuts.");
        edges.due("the heading ahead of cut", order.indexOf("cut") - order.indexOf("---- cuts"), 1);
        edges.says(25, "the interface says: ---- rows without an end.");
        edges.due("the heading ahead of period", order.indexOf("period") - order.indexOf("---- rows without an end"), 1);
        edges.says(34, "the interface says: ---- what was seen.");
        edges.due("the heading ahead of see", order.indexOf("see") - order.indexOf("---- what was seen"), 1);
        edges.due("calls and headings", order.size(), 41);
    }

    private static boolean areNext(int n, int i, int j) {
        return (i + 1) % n == j || (j + 1) % n == i;
    }

    /** The LINES of the CUT, told from its entries: each 16 times the lesser corner, and the greater one. */
    private static List<Integer> linesOf(DiamondRows x) {
        int n = x.told(0);
        List<Integer> lines = new ArrayList<>();
        for (int i = 0; i < n; i++) {
            for (int j = i + 1; j < n; j++) {
                if (!areNext(n, i, j) && x.entry(i, j) == 1) {
                    lines.add(16 * i + j);
                }
            }
        }
        return lines;
    }

    private static long bitsOf(int n, List<Integer> lines) {
        long bits = 0;
        int number = 0;
        for (int i = 0; i < n; i++) {
            for (int j = i + 1; j < n; j++) {
                if (!areNext(n, i, j)) {
                    bits += lines.contains(16 * i + j) ? 1L << number : 0;
                    number++;
                }
            }
        }
        return bits;
    }

    private static boolean cross(int one, int other) {
        TreeSet<Integer> four = new TreeSet<>(List.of(one / 16, one % 16));
        four.add(other / 16);
        four.add(other % 16);
        boolean low = one / 16 < other / 16 && other / 16 < one % 16;
        boolean high = one / 16 < other % 16 && other % 16 < one % 16;
        return four.size() == 4 && low != high;
    }

    private static void numbering() {
        DiamondRows x = new DiamondRows();
        for (int n = 4; n <= 9; n++) {
            long before = -1;
            for (int number = 0; number < COUNTS[n - 4]; number++) {
                x.take(n, number);
                List<Integer> lines = linesOf(x);
                edges.says(6, "A CUT: n - 3 LINES that don't cross: it has n - 2 TRIANGLES");
                edges.due("LINES of CUT " + number, lines.size(), n - 3);
                for (int one : lines) {
                    for (int other : lines) {
                        edges.holds(one + " and " + other + " don't cross", !cross(one, other));
                    }
                }
                edges.holds("the last TRIANGLE", x.triangle(n - 3, 0) >= 0);
                edges.says(6, "LINES are numbered from 0 by their lesser corner, then by the greater one.");
                edges.says(6, "Its BITS: the sum of 2 to the number of each of its LINES; the CUTS of n corners are numbered from 0 by their BITS, rising.");
                long bits = bitsOf(n, lines);
                edges.holds("BITS rise at CUT " + number + " of " + n, bits > before);
                before = bits;
            }
            edges.due("no CUT more", x.take(n, COUNTS[n - 4]), RANGE);
        }
    }

    private static void texts() {
        edges.says(4, "A CUT is a text = \"corners\" N \";\" {N N \";\"}: n, and the corners of LINES, either one first.");
        DiamondRows x = new DiamondRows();
        DiamondRows y = new DiamondRows();
        for (int n = 4; n <= 9; n++) {
            for (int number = 0; number < COUNTS[n - 4]; number++) {
                x.take(n, number);
                StringBuilder text = new StringBuilder("corners " + n + ";");
                List<Integer> lines = linesOf(x);
                Collections.rotate(lines, number);
                for (int line : lines) {
                    boolean lesserFirst = (number + line) % 2 == 0;
                    text.append(lesserFirst ? line / 16 : line % 16).append(' ');
                    text.append(lesserFirst ? line % 16 : line / 16).append(';');
                }
                edges.due("cut() of " + text, Check.cut(y, text.toString()), number);
                edges.due("fault(0)", y.fault(0), 0);
                edges.says(18, "the CUT that has this CORNER ROW becomes the CUT: its number");
                y.take(n, 0);
                edges.due("read() of its row", Check.read(y, rowOf(x)), number);
                edges.due("mend() of its row", Check.mend(y, rowOf(x)), 0);
                edges.due("mended()", y.mended(), number);
                edges.says(4, "A CUT is a text = \"corners\" N \";\" {N N \";\"}: n, and the corners of LINES, either one first.");
            }
        }
    }

    private static String rowOf(DiamondRows x) {
        StringBuilder row = new StringBuilder();
        for (int c = 0; c < x.told(0); c++) {
            row.append(x.row(c)).append(' ');
        }
        return row.toString();
    }

    private static void flipsGoBack() {
        edges.says(12, "A FLIP of one of the CUT's LINES: the two TRIANGLES at it make four corners; the other two of them are its corners then.");
        DiamondRows x = new DiamondRows();
        DiamondRows y = new DiamondRows();
        for (int n = 4; n <= 9; n++) {
            for (int number = 0; number < COUNTS[n - 4]; number++) {
                x.take(n, number);
                List<Integer> lines = linesOf(x);
                for (int line : lines) {
                    int flipped = x.flip(line / 16, line % 16);
                    List<Integer> want = new ArrayList<>(lines);
                    want.remove(Integer.valueOf(line));
                    want.add(flipped);
                    want.sort(null);
                    edges.holds("the others stay", linesOf(x).equals(want));
                    edges.holds("the new one crosses the old one", cross(line, flipped));
                    y.take(n, number);
                    edges.due("fewest() to it", y.fewest(x.told(1)), 1);
                    edges.due("flip() back", x.flip(flipped % 16, flipped / 16), line);
                    edges.due("told(1)", x.told(1), number);
                }
            }
        }
    }

    private static void turning() {
        edges.says(16, "ALIKE: a CUT from another one by turning all corners on by one, as often as one likes (MIRRORED: also by telling corner c as n - 1 - c).");
        DiamondRows x = new DiamondRows();
        for (int n = 4; n <= 9; n++) {
            TreeSet<Integer> turned = new TreeSet<>();
            TreeSet<Integer> mirrored = new TreeSet<>();
            for (int number = 0; number < COUNTS[n - 4]; number++) {
                x.take(n, number);
                String row = rowOf(x);
                int least = leastOfTurned(n, row);
                int either = Math.min(least, leastOfTurned(n, new StringBuilder(row).reverse().substring(1) + " "));
                edges.due("least(false) of CUT " + number, x.least(false), least);
                edges.due("least(true) of CUT " + number, x.least(true), either);
                turned.add(least);
                mirrored.add(either);
            }
            edges.due("kinds(" + n + ", false)", x.kinds(n, false), turned.size());
            edges.due("kinds(" + n + ", true)", x.kinds(n, true), mirrored.size());
        }
    }

    /** The least number of the CUTS whose CORNER ROW is a turned one: all its numbers have one sign. */
    private static int leastOfTurned(int n, String row) {
        DiamondRows y = new DiamondRows();
        y.take(n, 0);
        int least = Integer.MAX_VALUE;
        String turning = row;
        for (int turn = 0; turn < n; turn++) {
            least = Math.min(least, Check.read(y, turning));
            turning = turning.substring(2) + turning.substring(0, 2);
        }
        return least;
    }

    private static void straightWays() {
        edges.says(21, "the LINES of the CUT that the line from i to j crosses (none if they are next to each other or the CUT has it), in the order from i");
        DiamondRows x = new DiamondRows();
        for (int n = 4; n <= 9; n++) {
            for (int number = 0; number < COUNTS[n - 4]; number += n < 9 ? 1 : 5) {
                x.take(n, number);
                List<Integer> lines = linesOf(x);
                for (int i = 0; i < n; i++) {
                    for (int j = 0; j < n; j++) {
                        if (i != j) {
                            crosses(x, lines, i, j);
                        }
                    }
                }
            }
        }
    }

    private static void crosses(DiamondRows x, List<Integer> lines, int i, int j) {
        int straight = 16 * Math.min(i, j) + Math.max(i, j);
        TreeSet<Integer> want = new TreeSet<>();
        for (int line : lines) {
            if (cross(straight, line)) {
                want.add(line);
            }
        }
        int many = x.crossed(i, j, NONE);
        TreeSet<Integer> got = new TreeSet<>();
        for (int k = 0; k < many; k++) {
            got.add(x.crossed(i, j, k));
            edges.due("the way back", x.crossed(j, i, many - 1 - k), x.crossed(i, j, k));
            if (k + 1 < many) {
                edges.due("the other side on the way back", x.side(j, i, many - 2 - k), 1 - x.side(i, j, k));
            }
        }
        edges.due("LINES crossed", many, want.size());
        edges.holds(got + " are " + want, got.equals(want));
        if (many > 0) {
            int first = x.crossed(i, j, 0);
            // The first one cuts off a TRIANGLE with corner i.
            edges.holds("it lies at i", joined(x, i, first / 16) && joined(x, i, first % 16));
        }
    }

    private static boolean joined(DiamondRows x, int i, int j) {
        return x.entry(i, j) == 1;
    }

    private static void withoutEnd() {
        edges.says(28, "told without an end both ways (a(i + m) is a(i))");
        DiamondRows x = new DiamondRows();
        DiamondRows y = new DiamondRows();
        for (String once : new String[] {"3", "1 5", "2 3 4", "7 1 2 9", "20 1 3 1 2"}) {
            int m = Check.period(x, once);
            Check.period(y, once + " " + once);
            for (int i = 0; i < 2 * m; i++) {
                for (int length = 0; length <= 12; length++) {
                    edges.due("along(" + i + ", " + length + ") of " + once + ", twice", y.along(i, length),
                        x.along(i % m, length));
                }
            }
        }
        edges.says(26, "The PERIOD becomes the CORNER ROW of the CUT");
        for (int n = 4; n <= 9; n++) {
            for (int number = 0; number < COUNTS[n - 4]; number++) {
                x.take(n, number);
                edges.due("ofCut()", x.ofCut(), n);
                edges.due("breaks(0) of a CUT", x.breaks(0), n);
                edges.due("breaks(1) of a CUT", x.breaks(1), 0);
                edges.due("breaks(2) of a CUT", x.breaks(2), 1);
                edges.due("growth() of a CUT", x.growth(), -2);
                for (int i = 0; i < n; i++) {
                    edges.due("of(" + i + ")", x.of(i), x.row(i));
                    for (int length = 0; length < n; length++) {
                        edges.due("along(" + i + ", " + length + ")", x.along(i, length), x.entry(i, (i + length) % n));
                    }
                }
            }
        }
    }

    private static void rounds() {
        edges.says(30, "GROWTH: e(0, m + 1) less e(1, m - 1): what a round puts to it.");
        DiamondRows x = new DiamondRows();
        for (String text : new String[] {"1", "20", "1 1", "3 1", "2 3 5", "1 2 3 4", "1 1 1 1", "5 1 2 2 2", "1 1 2 1 1", "6 1 5 1 4 1"}) {
            int m = Check.period(x, text);
            long growth = x.growth();
            // Each entry two rounds on is the one a round on by GROWTH, less the one it began with.
            for (int i = 0; i < m; i++) {
                for (int length = 0; length + 2 * m <= 12; length++) {
                    edges.due("two rounds on from " + i + " and " + length + " of " + text, x.along(i, length + 2 * m),
                        growth * x.along(i, length + m) - x.along(i, length));
                }
            }
            String turned = text.substring(text.indexOf(' ') + 1) + " " + text.substring(0, Math.max(0, text.indexOf(' ')));
            Check.period(x, turned);
            edges.due("growth() wherever " + text + " begins", x.growth(), growth);
        }
    }

    private static void gluedAndCutOff() {
        edges.says(31, "a 1 is put in behind a(i), and a(i) and the number that was behind it (as the PERIOD goes on; for m 1 a(0) itself, twice) grow by 1");
        edges.says(32, "it goes, and both numbers beside it become less by 1");
        for (String text : new String[] {"2 3", "1 1", "4 1 2", "1 1 1", "5 1 3 1 6", "2 2 2 2 2 2 2 2 2"}) {
            DiamondRows x = new DiamondRows();
            int m = Check.period(x, text);
            String before = periodOf(x);
            for (int i = 0; i < m; i++) {
                long growth = x.growth();
                edges.due("glue(" + i + ") of " + text, x.glue(i), m + 1);
                edges.due("the 1 behind it", x.of(i + 1), 1);
                edges.due("growth() stays", x.growth(), growth);
                edges.due("cutOff(" + (i + 1) + ")", x.cutOff(i + 1), m);
                edges.holds(periodOf(x) + " is " + before, periodOf(x).equals(before));
            }
        }
    }

    private static String periodOf(DiamondRows x) {
        StringBuilder told = new StringBuilder();
        for (int i = 0; i < x.told(3); i++) {
            told.append(x.of(i)).append(' ');
        }
        return told.toString();
    }

    /** Each CUT is hidden in turn and found by asking alone: all others fall away, and what was known stays known. */
    private static void cutsNobodyShows() {
        edges.says(38, "and cuts that nobody shows, found from entries as they were known");
        DiamondRows hidden = new DiamondRows();
        for (int n = 4; n <= 9; n++) {
            for (int number = 0; number < COUNTS[n - 4]; number++) {
                hidden.take(n, number);
                DiamondRows x = new DiamondRows();
                x.take(n, 0);
                List<Integer> left = new ArrayList<>();
                int step = 0;
                for (int asked = x.ask(step); asked >= 0; asked = x.ask(step)) {
                    left.add(x.fit(step, 0));
                    step++;
                    x.see(step, asked / 16, asked % 16, hidden.entry(asked % 16, asked / 16));
                }
                edges.due("ask() at last", x.ask(step), NONE);
                edges.due("fit(.., 0) at last", x.fit(step, 0), 1);
                edges.due("fit(.., 1) at last", x.fit(step, 1), number);
                for (int earlier = 0; earlier < step; earlier++) {
                    edges.due("fit(" + earlier + ", 0) as known then", x.fit(earlier, 0), left.get(earlier));
                }
                for (int i = 0; i < n; i++) {
                    for (int j = i + 2; j < n; j++) {
                        int sure = areNext(n, i, j) ? RANGE : hidden.entry(i, j) == 1 ? 1 : 0;
                        edges.due("surely(" + i + ", " + j + ", ..) at last", x.surely(i, j, step), sure);
                    }
                }
            }
        }
    }
}
