import java.math.BigInteger;
import java.util.ArrayDeque;
import java.util.ArrayList;
import java.util.Arrays;
import java.util.Collections;
import java.util.HashMap;
import java.util.List;
import java.util.Map;
import java.util.TreeMap;
import java.util.TreeSet;
import java.util.regex.Matcher;
import java.util.regex.Pattern;

/**
 * The document told once more, as slowly and as near to its words as can be, and by other means
 * than DiamondRows: RunsTest lets both answer the same calls.
 */
final class SlowModel {
    static final int NONE = -1;
    static final int RANGE = -2;
    static final int FULL = -3;
    static final int STATE = -4;

    /** A CUT, with all that follows from it. */
    static final class Cut {
        final int n;
        final TreeSet<Integer> lines = new TreeSet<>();
        final List<int[]> triangles = new ArrayList<>();
        long bits;
        int number;
        int[][] frieze;
        int[] row;

        Cut(int n) {
            this.n = n;
        }

        boolean joined(int i, int j) {
            int a = Math.min(i, j);
            int b = Math.max(i, j);
            return b - a == 1 || a == 0 && b == n - 1 || lines.contains(16 * a + b);
        }
    }

    private static final Map<Integer, List<Cut>> ALL = new HashMap<>();

    static List<Integer> allLines(int n) {
        List<Integer> lines = new ArrayList<>();
        for (int i = 0; i < n; i++) {
            for (int j = i + 1; j < n; j++) {
                if (j != i + 1 && !(i == 0 && j == n - 1)) {
                    lines.add(16 * i + j);
                }
            }
        }
        return lines;
    }

    static List<Cut> cuts(int n) {
        if (!ALL.containsKey(n)) {
            List<Cut> found = new ArrayList<>();
            for (List<int[]> triangles : dissect(0, n - 1)) {
                found.add(made(n, triangles));
            }
            found.sort((x, y) -> Long.compare(x.bits, y.bits));
            for (int k = 0; k < found.size(); k++) {
                found.get(k).number = k;
            }
            ALL.put(n, found);
        }
        return ALL.get(n);
    }

    /** All ways to cut what lies above the edge of two corners: by the third corner of its triangle. */
    private static List<List<int[]>> dissect(int low, int high) {
        List<List<int[]>> all = new ArrayList<>();
        if (high - low < 2) {
            all.add(new ArrayList<>());
            return all;
        }
        for (int middle = low + 1; middle < high; middle++) {
            for (List<int[]> left : dissect(low, middle)) {
                for (List<int[]> right : dissect(middle, high)) {
                    List<int[]> both = new ArrayList<>(left);
                    both.addAll(right);
                    both.add(new int[] {low, middle, high});
                    all.add(both);
                }
            }
        }
        return all;
    }

    private static Cut made(int n, List<int[]> triangles) {
        Cut cut = new Cut(n);
        List<Integer> numbers = allLines(n);
        cut.triangles.addAll(triangles);
        cut.triangles.sort((x, y) -> Arrays.compare(x, y));
        cut.row = new int[n];
        for (int[] t : triangles) {
            for (int a = 0; a < 3; a++) {
                cut.row[t[a]]++;
                int pair = 16 * Math.min(t[a], t[(a + 1) % 3]) + Math.max(t[a], t[(a + 1) % 3]);
                if (numbers.contains(pair)) {
                    cut.lines.add(pair);
                }
            }
        }
        for (int line : cut.lines) {
            cut.bits += 1L << numbers.indexOf(line);
        }
        cut.frieze = new int[n][];
        for (int i = 0; i < n; i++) {
            cut.frieze[i] = labels(cut, i);
        }
        return cut;
    }

    /** From a corner outward: its neighbours have 1, a triangle's third corner the sum of the two. */
    private static int[] labels(Cut cut, int from) {
        int[] label = new int[cut.n];
        Arrays.fill(label, -1);
        for (int c = 0; c < cut.n; c++) {
            if (c != from && cut.joined(from, c)) {
                label[c] = 1;
            }
        }
        label[from] = 0;
        for (int round = 0; round < cut.n; round++) {
            for (int[] t : cut.triangles) {
                for (int a = 0; a < 3; a++) {
                    int x = label[t[(a + 1) % 3]];
                    int y = label[t[(a + 2) % 3]];
                    if (label[t[a]] < 0 && x >= 0 && y >= 0) {
                        label[t[a]] = x + y;
                    }
                }
            }
        }
        return label;
    }

    /** A TOKEN: its text ("" at the end), kind (w, n, ;, or ! for a bad one, e at the end), place. */
    record Token(String text, char kind, int place) { }

    static List<Token> tokens(String text) {
        List<Token> found = new ArrayList<>();
        Matcher m = Pattern.compile("([a-z]+)|([0-9]+)|([^ \\n])", Pattern.DOTALL).matcher(text);
        while (m.find()) {
            String t = m.group();
            char kind = '!';
            if (m.group(1) != null && t.length() <= 8) {
                kind = 'w';
            } else if (m.group(2) != null && t.length() <= 3) {
                kind = 'n';
            } else if (t.equals(";")) {
                kind = ';';
            }
            found.add(new Token(t, kind, m.start()));
        }
        found.add(new Token("", 'e', text.length()));
        return found;
    }

    record Sight(int step, int i, int j, int v) { }

    record Right(int step, int k, int v) { }

    private final StringBuilder tape = new StringBuilder();
    private Cut cut = cuts(4).get(0);
    private int faultKind = 0;
    private int faultPlace = NONE;
    private List<Integer> way = new ArrayList<>();
    private int mended = NONE;
    private List<Integer> period = new ArrayList<>(List.of(1));
    private List<Sight> seen = new ArrayList<>();
    private List<Right> rights = new ArrayList<>();
    private int latest = 0;

    int feed(int a, int b, int c, int d, int e) {
        if (tape.length() + 20 > 300) {
            return FULL;
        }
        for (int x : new int[] {a, b, c, d, e}) {
            for (byte y : BigInteger.valueOf(x & 0xffffffffL).add(BigInteger.ONE.shiftLeft(32)).toByteArray()) {
                tape.append((char) (y & 255));
            }
            tape.deleteCharAt(tape.length() - 5);
        }
        return tape.length();
    }

    int end(int n) {
        if (n < 0 || n > tape.length()) {
            return NONE;
        }
        tape.setLength(n);
        return n;
    }

    private String takeTape() {
        String text = tape.toString();
        tape.setLength(0);
        return text;
    }

    private void become(Cut next) {
        if (next.n != cut.n) {
            seen = new ArrayList<>();
            rights = new ArrayList<>();
            latest = 0;
        }
        cut = next;
    }

    int cut() {
        String text = takeTape();
        int n = 0;
        List<int[]> lines = new ArrayList<>();
        List<Token> all = tokens(text);
        for (int at = 0; at < all.size(); at++) {
            Token t = all.get(at);
            char wanted = at == 0 ? 'w' : at == 1 ? 'n' : at == 2 ? ';' : "nn;".charAt((at - 3) % 3);
            boolean mayEnd = at >= 3 && (at - 3) % 3 == 0;
            int kind = 0;
            if (t.kind() == 'e' && mayEnd) {
                kind = lines.size() < n - 3 ? 6 : 0;
            } else if (t.kind() != wanted || wanted == 'w' && !t.text().equals("corners")) {
                kind = 1;
            } else if (wanted == 'n') {
                int value = Integer.parseInt(t.text());
                if (at == 1) {
                    n = value;
                    kind = n < 4 || n > 9 ? 2 : 0;
                } else if (value >= n) {
                    kind = 2;
                } else if ((at - 3) % 3 == 1) {
                    int first = Integer.parseInt(all.get(at - 1).text());
                    kind = lineFault(n, first, value, lines);
                    lines.add(new int[] {first, value});
                }
            }
            if (kind != 0) {
                faultKind = kind;
                faultPlace = t.place();
                return NONE;
            }
        }
        faultKind = 0;
        faultPlace = NONE;
        TreeSet<Integer> wanted = new TreeSet<>();
        for (int[] line : lines) {
            wanted.add(16 * Math.min(line[0], line[1]) + Math.max(line[0], line[1]));
        }
        for (Cut c : cuts(n)) {
            if (c.lines.equals(wanted)) {
                become(c);
                return c.number;
            }
        }
        throw new IllegalStateException("no cut: " + text);
    }

    private static int lineFault(int n, int a, int b, List<int[]> lines) {
        for (int[] l : lines) {
            if (l[0] == a && l[1] == b || l[0] == b && l[1] == a) {
                return 3;
            }
        }
        if (a == b || (a + 1) % n == b || (b + 1) % n == a) {
            return 4;
        }
        for (int[] l : lines) {
            boolean common = l[0] == a || l[0] == b || l[1] == a || l[1] == b;
            if (!common && between(n, l[0], a, l[1]) != between(n, l[0], b, l[1])) {
                return 5;
            }
        }
        return 0;
    }

    /** Whether a corner is strictly between two others as they follow the first. */
    static boolean between(int n, int from, int corner, int to) {
        for (int c = (from + 1) % n; c != to && c != from; c = (c + 1) % n) {
            if (c == corner) {
                return true;
            }
        }
        return false;
    }

    int fault(int what) {
        return what == 0 ? faultKind : what == 1 ? faultPlace : NONE;
    }

    int take(int corners, int number) {
        if (corners < 4 || corners > 9 || number < 0 || number >= cuts(corners).size()) {
            return RANGE;
        }
        become(cuts(corners).get(number));
        return number;
    }

    int told(int what) {
        int[] all = {cut.n, cut.number, cuts(cut.n).size(), period.size()};
        return what < 0 || what > 3 ? NONE : all[what];
    }

    int triangle(int t, int which) {
        if (t < 0 || t >= cut.triangles.size() || which < 0 || which > 2) {
            return RANGE;
        }
        return cut.triangles.get(t)[which];
    }

    private boolean bad(int... corners) {
        for (int c : corners) {
            if (c < 0 || c >= cut.n) {
                return true;
            }
        }
        return false;
    }

    int entry(int i, int j) {
        return bad(i, j) ? RANGE : cut.frieze[i][j];
    }

    int row(int i) {
        return bad(i) ? RANGE : cut.row[i];
    }

    int way(int i, int j, int k, int corner) {
        if (bad(i, j, corner)) {
            return RANGE;
        }
        List<Integer> inner = new ArrayList<>();
        for (int c = (i + 1) % cut.n; c != j; c = (c + 1) % cut.n) {
            inner.add(c);
        }
        List<List<Integer>> ways = new ArrayList<>();
        ways.add(new ArrayList<>());
        for (int c : inner) {
            List<List<Integer>> longer = new ArrayList<>();
            for (List<Integer> w : ways) {
                for (int t = 0; t < cut.triangles.size(); t++) {
                    boolean there = Arrays.stream(cut.triangles.get(t)).anyMatch(x -> x == c);
                    if (there && !w.contains(t)) {
                        List<Integer> on = new ArrayList<>(w);
                        on.add(t);
                        longer.add(on);
                    }
                }
            }
            ways = longer;
        }
        if (ways.size() != cut.frieze[i][j]) {
            throw new IllegalStateException("ways are not as many as the frieze tells");
        }
        if (k < 0 || k >= ways.size()) {
            return RANGE;
        }
        return inner.contains(corner) ? ways.get(k).get(inner.indexOf(corner)) : NONE;
    }

    private static int flipped(Cut cut, int line) {
        List<Integer> others = new ArrayList<>();
        for (int[] t : cut.triangles) {
            List<Integer> corners = new ArrayList<>(List.of(t[0], t[1], t[2]));
            if (corners.contains(line / 16) && corners.contains(line % 16)) {
                corners.remove(Integer.valueOf(line / 16));
                corners.remove(Integer.valueOf(line % 16));
                others.add(corners.get(0));
            }
        }
        return 16 * Collections.min(others) + Collections.max(others);
    }

    private static Cut behindFlip(Cut cut, int line) {
        TreeSet<Integer> wanted = new TreeSet<>(cut.lines);
        wanted.remove(line);
        wanted.add(flipped(cut, line));
        for (Cut c : cuts(cut.n)) {
            if (c.lines.equals(wanted)) {
                return c;
            }
        }
        throw new IllegalStateException("no cut behind a flip");
    }

    int flip(int i, int j) {
        if (bad(i, j)) {
            return RANGE;
        }
        int line = 16 * Math.min(i, j) + Math.max(i, j);
        if (!cut.lines.contains(line)) {
            return NONE;
        }
        int told = flipped(cut, line);
        cut = behindFlip(cut, line);
        return told;
    }

    private static final Map<Integer, List<TreeSet<Integer>>> NEAR = new HashMap<>();

    private static List<TreeSet<Integer>> near(int n) {
        if (!NEAR.containsKey(n)) {
            List<TreeSet<Integer>> all = new ArrayList<>();
            for (Cut c : cuts(n)) {
                TreeSet<Integer> next = new TreeSet<>();
                for (int line : c.lines) {
                    next.add(behindFlip(c, line).number);
                }
                all.add(next);
            }
            NEAR.put(n, all);
        }
        return NEAR.get(n);
    }

    /** From a cut the least row of cuts to each other one, grown a flip at a time. */
    private static Map<Integer, List<Integer>> leastRows(int n, int from) {
        Map<Integer, List<Integer>> rows = new TreeMap<>();
        rows.put(from, List.of(from));
        ArrayDeque<List<Integer>> waiting = new ArrayDeque<>();
        waiting.add(List.of(from));
        // Rows of one length wait in rising order, so the first that comes to a cut is the least.
        while (!waiting.isEmpty()) {
            List<Integer> here = waiting.poll();
            for (int next : near(n).get(here.get(here.size() - 1))) {
                if (!rows.containsKey(next)) {
                    List<Integer> on = new ArrayList<>(here);
                    on.add(next);
                    rows.put(next, on);
                    waiting.add(on);
                }
            }
        }
        return rows;
    }

    int fewest(int number) {
        if (number < 0 || number >= cuts(cut.n).size()) {
            return RANGE;
        }
        way = leastRows(cut.n, cut.number).get(number);
        return way.size() - 1;
    }

    int passed(int i) {
        return i < 0 || i >= way.size() ? NONE : way.get(i);
    }

    int farthest(int what) {
        TreeMap<Integer, Integer> howMany = new TreeMap<>();
        for (List<Integer> row : leastRows(cut.n, cut.number).values()) {
            howMany.merge(row.size() - 1, 1, Integer::sum);
        }
        return what == 0 ? howMany.lastKey() : what == 1 ? howMany.lastEntry().getValue() : NONE;
    }

    private static TreeSet<Integer> alike(Cut c, boolean mirrored) {
        TreeSet<Integer> numbers = new TreeSet<>();
        for (int turn = 0; turn < c.n; turn++) {
            for (int mirror = 0; mirror < (mirrored ? 2 : 1); mirror++) {
                TreeSet<Integer> lines = new TreeSet<>();
                for (int line : c.lines) {
                    int a = (line / 16 + turn) % c.n;
                    int b = (line % 16 + turn) % c.n;
                    a = mirror == 1 ? c.n - 1 - a : a;
                    b = mirror == 1 ? c.n - 1 - b : b;
                    lines.add(16 * Math.min(a, b) + Math.max(a, b));
                }
                for (Cut other : cuts(c.n)) {
                    if (other.lines.equals(lines)) {
                        numbers.add(other.number);
                    }
                }
            }
        }
        return numbers;
    }

    int least(boolean mirrored) {
        return alike(cut, mirrored).first();
    }

    private static final Map<String, Integer> KINDS = new HashMap<>();

    int kinds(int corners, boolean mirrored) {
        if (corners < 4 || corners > 9) {
            return RANGE;
        }
        return KINDS.computeIfAbsent(corners + " " + mirrored, key -> {
            TreeSet<Integer> leasts = new TreeSet<>();
            for (Cut c : cuts(corners)) {
                leasts.add(alike(c, mirrored).first());
            }
            return leasts.size();
        });
    }

    /** The numbers of a row {N}; null if the text is none. */
    private static List<Integer> numbers(String text) {
        List<Integer> found = new ArrayList<>();
        for (Token t : tokens(text)) {
            if (t.kind() == 'n') {
                found.add(Integer.parseInt(t.text()));
            } else if (t.kind() != 'e') {
                return null;
            }
        }
        return found;
    }

    int read() {
        List<Integer> row = numbers(takeTape());
        if (row == null || row.size() != cut.n) {
            return RANGE;
        }
        for (Cut c : cuts(cut.n)) {
            if (difference(c, row) == 0) {
                cut = c;
                return c.number;
            }
        }
        return NONE;
    }

    private static int difference(Cut c, List<Integer> row) {
        int sum = 0;
        for (int i = 0; i < c.n; i++) {
            sum += Math.abs(c.row[i] - row.get(i));
        }
        return sum;
    }

    int mend() {
        List<Integer> row = numbers(takeTape());
        if (row == null || row.size() != cut.n) {
            return RANGE;
        }
        TreeMap<Integer, TreeSet<Integer>> by = new TreeMap<>();
        for (Cut c : cuts(cut.n)) {
            by.computeIfAbsent(difference(c, row), key -> new TreeSet<>()).add(c.number);
        }
        mended = by.firstEntry().getValue().first();
        return by.firstKey();
    }

    int mended() {
        return mended;
    }

    /** How far along from corner i to j a line is crossed, the corners laid on a circle; -1: not at all. */
    private double crossing(int i, int j, int line) {
        double[] p = onCircle(i);
        double[] q = onCircle(j);
        double[] r = onCircle(line / 16);
        double[] s = onCircle(line % 16);
        double d = (q[0] - p[0]) * (s[1] - r[1]) - (q[1] - p[1]) * (s[0] - r[0]);
        if (Math.abs(d) < 1e-9) {
            return -1;
        }
        double along = ((r[0] - p[0]) * (s[1] - r[1]) - (r[1] - p[1]) * (s[0] - r[0])) / d;
        double other = ((r[0] - p[0]) * (q[1] - p[1]) - (r[1] - p[1]) * (q[0] - p[0])) / d;
        boolean inside = along > 1e-9 && along < 1 - 1e-9 && other > 1e-9 && other < 1 - 1e-9;
        return inside ? along : -1;
    }

    private double[] onCircle(int corner) {
        double angle = 2 * Math.PI * corner / cut.n;
        return new double[] {Math.cos(angle), Math.sin(angle)};
    }

    private List<Integer> crossedLines(int i, int j) {
        TreeMap<Double, Integer> found = new TreeMap<>();
        for (int line : cut.lines) {
            double along = crossing(i, j, line);
            if (along > 0) {
                found.put(along, line);
            }
        }
        return new ArrayList<>(found.values());
    }

    int crossed(int i, int j, int k) {
        if (bad(i, j) || i == j) {
            return RANGE;
        }
        List<Integer> found = crossedLines(i, j);
        return k == NONE ? found.size() : k < 0 || k >= found.size() ? NONE : found.get(k);
    }

    int side(int i, int j, int k) {
        if (bad(i, j) || i == j) {
            return RANGE;
        }
        List<Integer> found = crossedLines(i, j);
        if (k < 0 || k >= found.size() - 1) {
            return NONE;
        }
        TreeSet<Integer> both = new TreeSet<>(List.of(found.get(k) / 16, found.get(k) % 16));
        both.retainAll(List.of(found.get(k + 1) / 16, found.get(k + 1) % 16));
        return between(cut.n, i, both.first(), j) ? 0 : between(cut.n, j, both.first(), i) ? 1 : 99;
    }

    int greatest(int corners, int what) {
        if (corners < 4 || corners > 9 || what < 0 || what > 1) {
            return RANGE;
        }
        int most = -1;
        int number = -1;
        for (Cut c : cuts(corners)) {
            for (int[] from : c.frieze) {
                for (int v : from) {
                    if (v > most) {
                        most = v;
                        number = c.number;
                    }
                }
            }
        }
        return what == 0 ? most : number;
    }

    int spread(int i, int j, int v) {
        if (bad(i, j)) {
            return RANGE;
        }
        return (int) cuts(cut.n).stream().filter(c -> c.frieze[i][j] == v).count();
    }

    int period() {
        List<Integer> row = numbers(takeTape());
        if (row == null || row.isEmpty() || row.size() > 10
            || row.stream().anyMatch(a -> a < 1 || a > 20)) {
            return RANGE;
        }
        period = row;
        return row.size();
    }

    int ofCut() {
        period = new ArrayList<>();
        for (int a : cut.row) {
            period.add(a);
        }
        return period.size();
    }

    private boolean noPlace(int i) {
        return i < 0 || i >= period.size();
    }

    int of(int i) {
        return noPlace(i) ? RANGE : period.get(i);
    }

    private BigInteger e(int i, int l) {
        if (l < 2) {
            return BigInteger.valueOf(l);
        }
        int a = period.get((i + l - 1) % period.size());
        return BigInteger.valueOf(a).multiply(e(i, l - 1)).subtract(e(i, l - 2));
    }

    long along(int i, int length) {
        return noPlace(i) || length < 0 || length > 12 ? -9000000000000000000L : e(i, length).longValueExact();
    }

    int breaks(int what) {
        for (int l = 2; l <= 12; l++) {
            for (int i = 0; i < period.size(); i++) {
                if (e(i, l).signum() <= 0) {
                    boolean back = all(l, 0) && (l == 12 || all(l + 1, -1));
                    return what == 0 ? l : what == 1 ? i : what == 2 ? (back ? 1 : 0) : NONE;
                }
            }
        }
        return NONE;
    }

    private boolean all(int l, int v) {
        for (int i = 0; i < period.size(); i++) {
            if (!e(i, l).equals(BigInteger.valueOf(v))) {
                return false;
            }
        }
        return true;
    }

    long growth() {
        return e(0, period.size() + 1).subtract(e(1, period.size() - 1)).longValueExact();
    }

    int glue(int i) {
        if (noPlace(i)) {
            return RANGE;
        }
        List<Integer> grown = new ArrayList<>(period);
        int behind = (i + 1) % period.size();
        grown.set(i, grown.get(i) + 1);
        grown.set(behind, grown.get(behind) + 1);
        grown.add(i + 1, 1);
        if (grown.size() > 10 || Collections.max(grown) > 20) {
            return FULL;
        }
        period = grown;
        return grown.size();
    }

    private boolean cannotLose(int i) {
        int m = period.size();
        return m < 3 || period.get(i) != 1 || period.get((i + m - 1) % m) < 2 || period.get((i + 1) % m) < 2;
    }

    int cutOff(int i) {
        if (noPlace(i)) {
            return RANGE;
        }
        if (cannotLose(i)) {
            return STATE;
        }
        int m = period.size();
        List<Integer> left = new ArrayList<>(period);
        left.set((i + m - 1) % m, left.get((i + m - 1) % m) - 1);
        left.set((i + 1) % m, left.get((i + 1) % m) - 1);
        left.remove(i);
        period = left;
        return left.size();
    }

    int core() {
        int lost = 0;
        while (period.contains(1) && !cannotLose(period.indexOf(1))) {
            cutOff(period.indexOf(1));
            lost++;
        }
        return lost;
    }

    private boolean noTelling(int told, int v) {
        return told < latest || told < 0 || told > 999 || v < 0 || v > 9999;
    }

    int see(int told, int i, int j, int v) {
        if (noTelling(told, v) || bad(i, j) || i == j) {
            return RANGE;
        }
        if (seen.size() == 20) {
            return FULL;
        }
        seen.add(new Sight(told, i, j, v));
        latest = told;
        return seen.size() - 1;
    }

    int right(int told, int k, int v) {
        if (noTelling(told, v) || k < 0 || k >= seen.size() || told <= seen.get(k).step()) {
            return RANGE;
        }
        if (rights.size() == 20) {
            return FULL;
        }
        rights.add(new Right(told, k, v));
        latest = told;
        return (int) rights.stream().filter(r -> r.k() == k).count();
    }

    private List<Cut> fitting(int known) {
        List<Cut> found = new ArrayList<>();
        for (Cut c : cuts(cut.n)) {
            boolean fits = true;
            for (int k = 0; k < seen.size(); k++) {
                Sight s = seen.get(k);
                int v = s.v();
                for (Right r : rights) {
                    v = r.k() == k && r.step() <= known ? r.v() : v;
                }
                fits &= s.step() > known || c.frieze[s.i()][s.j()] == v;
            }
            if (fits) {
                found.add(c);
            }
        }
        return found;
    }

    int fit(int known, int what) {
        if (known < 0 || known > 999 || what < 0 || what > 1) {
            return RANGE;
        }
        List<Cut> found = fitting(known);
        return what == 0 ? found.size() : found.isEmpty() ? NONE : found.get(0).number;
    }

    int surely(int i, int j, int known) {
        int line = 16 * Math.min(i, j) + Math.max(i, j);
        if (known < 0 || known > 999 || bad(i, j) || !allLines(cut.n).contains(line)) {
            return RANGE;
        }
        List<Cut> found = fitting(known);
        long having = found.stream().filter(c -> c.lines.contains(line)).count();
        return found.isEmpty() ? NONE : having == found.size() ? 1 : having == 0 ? 0 : 2;
    }

    int ask(int known) {
        if (known < 0 || known > 999) {
            return RANGE;
        }
        List<Cut> found = fitting(known);
        int best = NONE;
        int fewest = Integer.MAX_VALUE;
        boolean agree = true;
        for (int i = 0; i < cut.n; i++) {
            for (int j = i + 1; j < cut.n; j++) {
                Map<Integer, Integer> by = new HashMap<>();
                for (Cut c : found) {
                    by.merge(c.frieze[i][j], 1, Integer::sum);
                }
                agree &= by.size() < 2;
                int most = by.isEmpty() ? 0 : Collections.max(by.values());
                if (most < fewest) {
                    fewest = most;
                    best = 16 * i + j;
                }
            }
        }
        return agree ? NONE : best;
    }

    int count(int what) {
        int[] all = {seen.size(), rights.size(), tape.length()};
        return what < 0 || what > 2 ? NONE : all[what];
    }
}
