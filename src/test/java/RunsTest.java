import java.util.ArrayList;
import java.util.List;
import java.util.Random;

/** All promises: long runs of calls, by fixed seeds, answered by DiamondRows and by SlowModel. */
final class RunsTest {
    private static final Check CHECK = new Check();

    private final int run;
    private final Random random;
    private final DiamondRows x = new DiamondRows();
    private final SlowModel y = new SlowModel();
    private int step = 0;

    private RunsTest(int run) {
        this.run = run;
        random = new Random(run);
    }

    public static void main(String[] args) {
        for (int run = 0; run < 600; run++) {
            RunsTest test = new RunsTest(run);
            for (int call = 0; call < 300; call++) {
                test.call();
            }
        }
        CHECK.finish();
    }

    private void due(String call, long got, long want) {
        CHECK.due("run " + run + ": " + call, got, want);
    }

    /** Mostly from 0 to below a bound, now and then beside it, seldom far off. */
    private int some(int bound) {
        int what = random.nextInt(40);
        if (what == 0) {
            return random.nextInt(3) - 3;
        }
        if (what == 1) {
            return bound + random.nextInt(3);
        }
        if (what == 2) {
            return random.nextInt();
        }
        return random.nextInt(Math.max(1, bound));
    }

    private int corner() {
        return some(y.told(0));
    }

    private void call() {
        switch (random.nextInt(13)) {
            case 0 -> tapeAlone();
            case 1 -> cutText();
            case 2 -> rowText();
            case 3 -> periodText();
            case 4 -> chooseCut();
            case 5 -> lookAtCut();
            case 6 -> goThrough();
            case 7 -> goFlips();
            case 8 -> compare();
            case 9 -> lookAtPeriod();
            case 10 -> changePeriod();
            case 11 -> tell();
            default -> askKnown();
        }
    }

    private void feed(int a, int b, int c, int d, int e) {
        due("feed", x.feed(a, b, c, d, e), y.feed(a, b, c, d, e));
    }

    private void end(int n) {
        due("end(" + n + ")", x.end(n), y.end(n));
    }

    private void tapeAlone() {
        for (int i = random.nextInt(4); i > 0; i--) {
            feed(random.nextInt(), random.nextInt(), random.nextInt(), random.nextInt(), random.nextInt());
        }
        end(some(y.count(2) + 1));
        due("count(2)", x.count(2), y.count(2));
    }

    private void put(String text) {
        end(0);
        StringBuilder padded = new StringBuilder(text);
        while (padded.length() % 20 != 0 || padded.length() == 0) {
            padded.append((char) random.nextInt(256));
        }
        for (int at = 0; at < padded.length(); at += 20) {
            feed(Check.four(padded, at), Check.four(padded, at + 4), Check.four(padded, at + 8),
                Check.four(padded, at + 12), Check.four(padded, at + 16));
        }
        end(text.length());
    }

    private String blanks(int least) {
        StringBuilder blanks = new StringBuilder();
        for (int i = random.nextInt(3) + least; i > 0; i--) {
            blanks.append(random.nextInt(4) == 0 ? '\n' : ' ');
        }
        return blanks.toString();
    }

    private void cutText() {
        int n = 4 + random.nextInt(6);
        List<SlowModel.Cut> all = SlowModel.cuts(n);
        StringBuilder text = new StringBuilder(blanks(0) + "corners" + blanks(0) + n + blanks(0) + ";");
        List<Integer> lines = new ArrayList<>(all.get(random.nextInt(all.size())).lines);
        if (random.nextInt(3) == 0) {
            int last = random.nextInt(lines.size());
            lines.set(last, 16 * random.nextInt(n + 1) + random.nextInt(n + 1));
        }
        if (random.nextInt(6) == 0) {
            lines.remove(random.nextInt(lines.size()));
        }
        java.util.Collections.shuffle(lines, random);
        for (int line : lines) {
            boolean turned = random.nextBoolean();
            text.append(blanks(0)).append(turned ? line % 16 : line / 16).append(blanks(1));
            text.append(turned ? line / 16 : line % 16).append(blanks(0)).append(';');
        }
        text.append(blanks(0));
        spoil(text, "corners 0123456789;;  \nxX-\t");
        put(text.toString());
        due("cut() of " + text, x.cut(), y.cut());
        due("fault(0) of " + text, x.fault(0), y.fault(0));
        due("fault(1) of " + text, x.fault(1), y.fault(1));
        int what = some(2);
        due("fault(" + what + ")", x.fault(what), y.fault(what));
        due("count(2)", x.count(2), y.count(2));
    }

    private void spoil(StringBuilder text, String signs) {
        if (random.nextInt(3) != 0 || text.length() == 0) {
            return;
        }
        char sign = random.nextInt(5) == 0 ? (char) random.nextInt(256)
            : signs.charAt(random.nextInt(signs.length()));
        int at = random.nextInt(text.length());
        switch (random.nextInt(4)) {
            case 0 -> text.setCharAt(at, sign);
            case 1 -> text.insert(at, sign);
            case 2 -> text.deleteCharAt(at);
            default -> text.setLength(at);
        }
    }

    private void rowText() {
        List<SlowModel.Cut> all = SlowModel.cuts(y.told(0));
        int[] row = all.get(random.nextInt(all.size())).row;
        StringBuilder text = new StringBuilder(blanks(0));
        for (int a : row) {
            int v = random.nextInt(9) == 0 ? random.nextInt(6) : random.nextInt(30) == 0 ? random.nextInt(1000) : a;
            text.append(random.nextInt(9) == 0 ? "0" : "").append(v).append(blanks(1));
        }
        spoil(text, "0123456789 a;");
        put(text.toString());
        if (random.nextBoolean()) {
            due("read() of " + text, x.read(), y.read());
        } else {
            due("mend() of " + text, x.mend(), y.mend());
        }
        due("mended()", x.mended(), y.mended());
        due("told(1)", x.told(1), y.told(1));
        due("count(2)", x.count(2), y.count(2));
    }

    private void periodText() {
        StringBuilder text = new StringBuilder(blanks(0));
        int m = random.nextInt(12);
        int most = random.nextInt(4) == 0 ? 21 : 4;
        for (int i = 0; i < m; i++) {
            text.append(random.nextInt(60) == 0 ? 0 : 1 + random.nextInt(most)).append(blanks(1));
        }
        spoil(text, "0123456789 a;");
        put(text.toString());
        due("period() of " + text, x.period(), y.period());
        due("told(3)", x.told(3), y.told(3));
        due("count(2)", x.count(2), y.count(2));
    }

    private void chooseCut() {
        int corners = random.nextInt(3) == 0 ? some(12) : y.told(0);
        int count = corners < 4 || corners > 9 ? 5 : SlowModel.cuts(corners).size();
        int number = some(count);
        due("take(" + corners + ", " + number + ")", x.take(corners, number), y.take(corners, number));
        int what = some(5);
        due("told(" + what + ")", x.told(what), y.told(what));
    }

    private void lookAtCut() {
        int i = corner();
        int j = corner();
        int t = some(y.told(0) - 2);
        int which = some(3);
        int v = some(9);
        due("triangle(" + t + ", " + which + ")", x.triangle(t, which), y.triangle(t, which));
        due("entry(" + i + ", " + j + ")", x.entry(i, j), y.entry(i, j));
        due("row(" + i + ")", x.row(i), y.row(i));
        due("spread(" + i + ", " + j + ", " + v + ")", x.spread(i, j, v), y.spread(i, j, v));
    }

    private void goThrough() {
        int i = corner();
        int j = corner();
        int k = some(Math.max(1, y.entry(i, j)));
        int c = corner();
        due("way(" + i + ", " + j + ", " + k + ", " + c + ")", x.way(i, j, k, c), y.way(i, j, k, c));
        k = some(5);
        due("crossed(" + i + ", " + j + ", -1)", x.crossed(i, j, -1), y.crossed(i, j, -1));
        due("crossed(" + i + ", " + j + ", " + k + ")", x.crossed(i, j, k), y.crossed(i, j, k));
        due("side(" + i + ", " + j + ", " + k + ")", x.side(i, j, k), y.side(i, j, k));
    }

    private void goFlips() {
        int i = corner();
        int j = corner();
        due("flip(" + i + ", " + j + ")", x.flip(i, j), y.flip(i, j));
        due("told(1)", x.told(1), y.told(1));
        if (random.nextInt(3) == 0) {
            int number = some(y.told(2));
            due("fewest(" + number + ")", x.fewest(number), y.fewest(number));
            for (int k = -1; k < 11; k++) {
                due("passed(" + k + ")", x.passed(k), y.passed(k));
            }
            int what = some(2);
            due("farthest(" + what + ")", x.farthest(what), y.farthest(what));
        }
        int k = some(5);
        due("passed(" + k + ")", x.passed(k), y.passed(k));
    }

    private void compare() {
        boolean mirrored = random.nextBoolean();
        due("least(" + mirrored + ")", x.least(mirrored), y.least(mirrored));
        int corners = some(11);
        due("kinds(" + corners + ", " + mirrored + ")", x.kinds(corners, mirrored), y.kinds(corners, mirrored));
        int what = some(2);
        due("greatest(" + corners + ", " + what + ")", x.greatest(corners, what), y.greatest(corners, what));
    }

    private void lookAtPeriod() {
        int i = some(y.told(3));
        int length = some(13);
        int what = some(3);
        due("of(" + i + ")", x.of(i), y.of(i));
        due("along(" + i + ", " + length + ")", x.along(i, length), y.along(i, length));
        due("breaks(" + what + ")", x.breaks(what), y.breaks(what));
        due("growth()", x.growth(), y.growth());
    }

    private void changePeriod() {
        int i = some(y.told(3));
        switch (random.nextInt(6)) {
            case 0 -> due("ofCut()", x.ofCut(), y.ofCut());
            case 1 -> due("core()", x.core(), y.core());
            case 2, 3 -> due("cutOff(" + i + ")", x.cutOff(i), y.cutOff(i));
            default -> due("glue(" + i + ")", x.glue(i), y.glue(i));
        }
        for (int k = 0; k <= y.told(3); k++) {
            due("of(" + k + ")", x.of(k), y.of(k));
        }
    }

    private void tell() {
        int told = random.nextInt(8) == 0 ? some(1000) : step + random.nextInt(3);
        step = told >= 0 && told < 100 ? told : step;
        int k = some(Math.max(1, y.count(0)));
        int v = random.nextInt(6) == 0 ? some(10000) : 1 + random.nextInt(4);
        if (random.nextInt(3) == 0) {
            due("right(" + told + ", " + k + ", " + v + ")", x.right(told, k, v), y.right(told, k, v));
        } else {
            int i = corner();
            int j = corner();
            due("see(" + told + ", " + i + ", " + j + ", " + v + ")", x.see(told, i, j, v), y.see(told, i, j, v));
        }
        int what = some(3);
        due("count(" + what + ")", x.count(what), y.count(what));
    }

    private void askKnown() {
        int known = random.nextInt(3) == 0 ? some(1000) : random.nextInt(step + 1);
        int what = some(2);
        int i = corner();
        int j = corner();
        due("fit(" + known + ", " + what + ")", x.fit(known, what), y.fit(known, what));
        due("surely(" + i + ", " + j + ", " + known + ")", x.surely(i, j, known), y.surely(i, j, known));
        due("ask(" + known + ")", x.ask(known), y.ask(known));
    }
}
