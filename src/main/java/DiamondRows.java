/**
 * A house for diamonds that make one: friezes grown from polygons cut to triangles, rows that go
 * on without an end by a period, and cuts that nobody shows. The words in capitals are those of
 * the document (DOC.md); a CUT is held as its POLYGON and its BITS.
 */
public final class DiamondRows {
    /** There is none. */
    public static final int NONE = -1;
    /** A number that can't be. */
    public static final int RANGE = -2;
    /** No room. */
    public static final int FULL = -3;
    /** Not as things are. */
    public static final int STATE = -4;

    private static final long NO_ENTRY = -9000000000000000000L;
    private static final int LEAST_CORNERS = 4;
    private static final int MOST_CORNERS = 9;
    private static final int MOST_LINES = 27;
    private static final int MOST_CUTS = 429;
    private static final int MOST_VALUE = 9999;
    private static final int LAST_STEP = 999;

    private final Tape tape = new Tape();
    private final Polygons polygons = new Polygons();
    private final CutText text = new CutText();
    private final Triangles triangles = new Triangles();
    private final CrossedLines crossedLines = new CrossedLines();
    private final Flips flips = new Flips();
    private final Endless endless = new Endless();
    private final Sightings sightings = new Sightings();
    private final Fitting fitting = new Fitting();
    private final int[] toldRow = new int[Endless.MOST_NUMBERS];
    private Polygon polygon;
    private int bits;
    private int mendedNumber = NONE;

    public DiamondRows() {
        polygon = polygons.withCorners(LEAST_CORNERS);
        bits = polygon.cutAt(0);
    }

    public int feed(int a, int b, int c, int d, int e) {
        if (!tape.hasRoomForTwenty()) {
            return FULL;
        }
        tape.append(a);
        tape.append(b);
        tape.append(c);
        tape.append(d);
        tape.append(e);
        return tape.size();
    }

    public int end(int n) {
        if (n < 0 || n > tape.size()) {
            return NONE;
        }
        tape.shorten(n);
        return n;
    }

    // ---- cuts

    public int cut() {
        boolean understood = text.understand(tape, polygons);
        tape.shorten(0);
        if (!understood) {
            return NONE;
        }
        become(text.polygon(), text.bits());
        return polygon.numberOf(bits);
    }

    public int fault(int what) {
        return what == 0 ? text.faultKind() : what == 1 ? text.faultPlace() : NONE;
    }

    public int take(int corners, int number) {
        Polygon chosen = polygons.withCorners(corners);
        if (chosen == null || !chosen.hasCut(number)) {
            return RANGE;
        }
        become(chosen, chosen.cutAt(number));
        return number;
    }

    public int told(int what) {
        switch (what) {
            case 0:
                return polygon.corners();
            case 1:
                return polygon.numberOf(bits);
            case 2:
                return polygon.cutCount();
            case 3:
                return endless.size();
            default:
                return NONE;
        }
    }

    public int triangle(int t, int which) {
        if (t < 0 || t >= polygon.corners() - 2 || which < 0 || which > 2) {
            return RANGE;
        }
        triangles.gather(polygon, bits);
        return triangles.cornerOf(t, which);
    }

    public int entry(int i, int j) {
        return areCorners(i, j) ? polygon.entryOf(bits, i, j) : RANGE;
    }

    public int row(int i) {
        return polygon.hasCorner(i) ? polygon.trianglesAt(bits, i) : RANGE;
    }

    public int way(int i, int j, int k, int corner) {
        if (!areCorners(i, j) || !polygon.hasCorner(corner)) {
            return RANGE;
        }
        if (k < 0 || k >= polygon.entryOf(bits, i, j)) {
            return RANGE;
        }
        int step = polygon.ahead(i, corner) - 1;
        if (step < 0 || step >= polygon.ahead(i, j) - 1) {
            return NONE;
        }
        triangles.gather(polygon, bits);
        return triangles.onWay(polygon, i, j, k, step);
    }

    public int flip(int i, int j) {
        if (!areCorners(i, j)) {
            return RANGE;
        }
        int line = polygon.lineOf(i, j);
        if (!polygon.has(bits, line)) {
            return NONE;
        }
        int other = polygon.otherLine(bits, line);
        bits = bits & ~(1 << line) | 1 << other;
        return polygon.pairOf(other);
    }

    public int fewest(int number) {
        if (!polygon.hasCut(number)) {
            return RANGE;
        }
        return flips.layWay(polygon, polygon.numberOf(bits), number);
    }

    public int passed(int i) {
        return flips.onWay(i);
    }

    public int farthest(int what) {
        if (what != 0 && what != 1) {
            return NONE;
        }
        flips.measure(polygon, polygon.numberOf(bits));
        int most = flips.mostSteps(polygon);
        return what == 0 ? most : flips.howManyAt(polygon, most);
    }

    public int least(boolean mirrored) {
        return polygon.numberOf(polygon.leastAlike(bits, mirrored));
    }

    public int kinds(int corners, boolean mirrored) {
        Polygon asked = polygons.withCorners(corners);
        return asked == null ? RANGE : asked.countKinds(mirrored);
    }

    public int read() {
        if (!takeRow()) {
            return RANGE;
        }
        int number = polygon.nearestTo(toldRow);
        if (polygon.differenceFrom(toldRow, polygon.cutAt(number)) != 0) {
            return NONE;
        }
        bits = polygon.cutAt(number);
        return number;
    }

    public int mend() {
        if (!takeRow()) {
            return RANGE;
        }
        mendedNumber = polygon.nearestTo(toldRow);
        return polygon.differenceFrom(toldRow, polygon.cutAt(mendedNumber));
    }

    public int mended() {
        return mendedNumber;
    }

    public int crossed(int i, int j, int k) {
        if (!areCorners(i, j) || i == j) {
            return RANGE;
        }
        crossedLines.gather(polygon, bits, i, j);
        return k == NONE ? crossedLines.size() : crossedLines.pairAt(polygon, k);
    }

    public int side(int i, int j, int k) {
        if (!areCorners(i, j) || i == j) {
            return RANGE;
        }
        crossedLines.gather(polygon, bits, i, j);
        int shared = crossedLines.sharedWithNext(polygon, k);
        if (shared == NONE) {
            return NONE;
        }
        return polygon.ahead(i, shared) < polygon.ahead(i, j) ? 0 : 1;
    }

    public int greatest(int corners, int what) {
        Polygon asked = polygons.withCorners(corners);
        if (asked == null || what < 0 || what > 1) {
            return RANGE;
        }
        int number = asked.numberOfGreatest();
        return what == 1 ? number : asked.greatestIn(asked.cutAt(number));
    }

    public int spread(int i, int j, int v) {
        return areCorners(i, j) ? polygon.countWith(i, j, v) : RANGE;
    }

    // ---- rows without an end

    public int period() {
        int size = tape.readNumbers(toldRow);
        tape.shorten(0);
        return endless.accepts(toldRow, size) ? endless.become(toldRow, size) : RANGE;
    }

    public int ofCut() {
        for (int corner = 0; corner < polygon.corners(); corner++) {
            toldRow[corner] = polygon.trianglesAt(bits, corner);
        }
        return endless.become(toldRow, polygon.corners());
    }

    public int of(int i) {
        return endless.hasPlace(i) ? endless.at(i) : RANGE;
    }

    public long along(int i, int length) {
        if (!endless.hasPlace(i) || length < 0 || length > Endless.MOST_LENGTH) {
            return NO_ENTRY;
        }
        return endless.entryAt(i, length);
    }

    public int breaks(int what) {
        int length = endless.breakLength();
        if (length == NONE) {
            return NONE;
        }
        switch (what) {
            case 0:
                return length;
            case 1:
                return endless.breakPlace(length);
            case 2:
                return endless.comesBack(length) ? 1 : 0;
            default:
                return NONE;
        }
    }

    public long growth() {
        return endless.growthOfRound();
    }

    public int glue(int i) {
        if (!endless.hasPlace(i)) {
            return RANGE;
        }
        return endless.canGlue(i) ? endless.glueBehind(i) : FULL;
    }

    public int cutOff(int i) {
        if (!endless.hasPlace(i)) {
            return RANGE;
        }
        return endless.canLose(i) ? endless.lose(i) : STATE;
    }

    public int core() {
        return endless.loseAll();
    }

    // ---- what was seen

    public int see(int told, int i, int j, int v) {
        if (!sightings.canTell(told) || !areCorners(i, j) || i == j || !isValue(v)) {
            return RANGE;
        }
        return sightings.add(told, i, j, v);
    }

    public int right(int told, int k, int v) {
        if (!sightings.canTell(told) || !sightings.wasSeenBefore(told, k) || !isValue(v)) {
            return RANGE;
        }
        return sightings.putRight(told, k, v);
    }

    public int fit(int known, int what) {
        if (!isStep(known) || what < 0 || what > 1) {
            return RANGE;
        }
        fitting.gather(polygon, sightings, known);
        return what == 0 ? fitting.size() : fitting.leastNumber();
    }

    public int surely(int i, int j, int known) {
        if (!isStep(known) || !areCorners(i, j) || polygon.lineOf(i, j) == NONE) {
            return RANGE;
        }
        fitting.gather(polygon, sightings, known);
        return fitting.howSure(polygon, polygon.lineOf(i, j));
    }

    public int ask(int known) {
        if (!isStep(known)) {
            return RANGE;
        }
        fitting.gather(polygon, sightings, known);
        return fitting.bestQuestion(polygon);
    }

    public int count(int what) {
        switch (what) {
            case 0:
                return sightings.size();
            case 1:
                return sightings.rights();
            case 2:
                return tape.size();
            default:
                return NONE;
        }
    }

    /** SEEN speak of corners, so they are worth nothing in a polygon of another size. */
    private void become(Polygon nextPolygon, int nextBits) {
        if (nextPolygon.corners() != polygon.corners()) {
            sightings.forget();
        }
        polygon = nextPolygon;
        bits = nextBits;
    }

    private boolean areCorners(int i, int j) {
        return polygon.hasCorner(i) && polygon.hasCorner(j);
    }

    private boolean takeRow() {
        int size = tape.readNumbers(toldRow);
        tape.shorten(0);
        return size == polygon.corners();
    }

    private static boolean isStep(int step) {
        return step >= 0 && step <= LAST_STEP;
    }

    private static boolean isValue(int v) {
        return v >= 0 && v <= MOST_VALUE;
    }

    /** THE TAPE, and the TOKEN that was read from it last. */
    private static final class Tape {
        static final int MOST_BYTES = 300;
        static final int MOST_LETTERS = 8;
        static final int MOST_DIGITS = 3;
        static final int END = 0;
        static final int WORD = 1;
        static final int NUMBER = 2;
        static final int SEMICOLON = 3;
        static final int BAD = 4;

        private final byte[] bytes = new byte[MOST_BYTES];
        private int length;
        private int next;
        private int kind;
        private int place;
        private int value;

        int size() {
            return length;
        }

        int kind() {
            return kind;
        }

        int place() {
            return place;
        }

        int value() {
            return value;
        }

        boolean hasRoomForTwenty() {
            return length + 20 <= MOST_BYTES;
        }

        void append(int four) {
            for (int shift = 24; shift >= 0 && length < MOST_BYTES; shift -= 8) {
                bytes[length] = (byte) (four >> shift);
                length++;
            }
        }

        void shorten(int n) {
            if (n >= 0 && n <= length) {
                length = n;
            }
        }

        void rewind() {
            next = 0;
        }

        /** The end of the text counts as a TOKEN of its own, for FAULTS may stand there. */
        void readToken() {
            while (next < length && isBlank(bytes[next])) {
                next++;
            }
            place = next;
            value = 0;
            if (next >= length) {
                kind = END;
            } else if (isLetter(bytes[next])) {
                readWord();
            } else if (isDigit(bytes[next])) {
                readNumber();
            } else {
                kind = bytes[next] == ';' ? SEMICOLON : BAD;
                next++;
            }
        }

        private void readWord() {
            while (next < length && isLetter(bytes[next])) {
                next++;
            }
            kind = next - place <= MOST_LETTERS ? WORD : BAD;
        }

        private void readNumber() {
            while (next < length && isDigit(bytes[next])) {
                // A run that is too long is BAD whatever it tells, so its wrap-around is harmless.
                value = value * 10 + bytes[next] - '0';
                next++;
            }
            kind = next - place <= MOST_DIGITS ? NUMBER : BAD;
        }

        boolean isWord(String word) {
            if (kind != WORD || next - place != word.length()) {
                return false;
            }
            for (int i = 0; i < word.length() && place + i < length; i++) {
                if (bytes[place + i] != word.charAt(i)) {
                    return false;
                }
            }
            return true;
        }

        /** How many numbers the text is a row of; NONE if it is none, or has more than fit in. */
        int readNumbers(int[] into) {
            rewind();
            for (int size = 0; size <= into.length; size++) {
                readToken();
                if (kind == END) {
                    return size;
                }
                if (kind != NUMBER || size == into.length) {
                    return NONE;
                }
                into[size] = value;
            }
            return NONE;
        }

        private static boolean isBlank(int sign) {
            return sign == ' ' || sign == '\n';
        }

        private static boolean isLetter(int sign) {
            return sign >= 'a' && sign <= 'z';
        }

        private static boolean isDigit(int sign) {
            return sign >= '0' && sign <= '9';
        }
    }

    /** The polygons that calls came to so far: a table is dear, so each is made once, when asked for. */
    private static final class Polygons {
        private final Polygon[] made = new Polygon[MOST_CORNERS - LEAST_CORNERS + 1];

        /** The polygon of so many corners; null if there is none. */
        Polygon withCorners(int corners) {
            if (corners < LEAST_CORNERS || corners > MOST_CORNERS) {
                return null;
            }
            int at = corners - LEAST_CORNERS;
            if (made[at] == null) {
                made[at] = new Polygon(corners);
            }
            return made[at];
        }
    }

    /** The LINES and all the CUTS of a polygon of 4 to 9 corners. */
    private static final class Polygon {
        private final int corners;
        private final int[] lesser = new int[MOST_LINES];
        private final int[] greater = new int[MOST_LINES];
        private final int[] numberOfLine = new int[MOST_CORNERS * MOST_CORNERS];
        /** Of each LINE the BITS of those that cross it. */
        private final int[] crossers = new int[MOST_LINES];
        /** Of each corner the BITS of the LINES there. */
        private final int[] linesAt = new int[MOST_CORNERS];
        private final int[] cuts = new int[MOST_CUTS];
        private int lineCount;
        private int cutCount;

        Polygon(int corners) {
            this.corners = corners;
            numberLines();
            findCrossers();
            gatherCuts(lineCount - 1, 0, (1 << lineCount) - 1, corners - 3);
        }

        private void numberLines() {
            for (int i = 0; i < corners; i++) {
                for (int j = 0; j < corners; j++) {
                    numberOfLine[i * MOST_CORNERS + j] = NONE;
                }
            }
            for (int i = 0; i < corners; i++) {
                // The last corner is next to corner 0.
                int end = i == 0 ? corners - 1 : corners;
                for (int j = i + 2; j < end; j++) {
                    numberLine(i, j);
                }
            }
        }

        private void numberLine(int i, int j) {
            if (lineCount >= MOST_LINES) {
                return;
            }
            lesser[lineCount] = i;
            greater[lineCount] = j;
            numberOfLine[i * MOST_CORNERS + j] = lineCount;
            numberOfLine[j * MOST_CORNERS + i] = lineCount;
            linesAt[i] |= 1 << lineCount;
            linesAt[j] |= 1 << lineCount;
            lineCount++;
        }

        private void findCrossers() {
            for (int one = 0; one < lineCount; one++) {
                for (int other = 0; other < lineCount; other++) {
                    if (cross(lesser[one], greater[one], lesser[other], greater[other])) {
                        crossers[one] |= 1 << other;
                    }
                }
            }
        }

        /** Of two LINES, each told by its lesser corner first. */
        private static boolean cross(int a, int b, int c, int d) {
            return a < c && c < b && b < d || c < a && a < d && d < b;
        }

        /**
         * Keeps each CUT made of the bits so far and of so many lines more, out of the open ones
         * up to a number. What leaves out the highest line comes first: so BITS rise.
         */
        private void gatherCuts(int line, int soFar, int open, int more) {
            if (more == 0) {
                keepCut(soFar);
                return;
            }
            if (line < 0 || Integer.bitCount(open) < more) {
                return;
            }
            int one = 1 << line;
            int rest = open & ~one;
            gatherCuts(line - 1, soFar, rest, more);
            if ((open & one) != 0) {
                gatherCuts(line - 1, soFar | one, rest & ~crossers[line], more - 1);
            }
        }

        private void keepCut(int found) {
            if (cutCount < MOST_CUTS) {
                cuts[cutCount] = found;
                cutCount++;
            }
        }

        int corners() {
            return corners;
        }

        int lineCount() {
            return lineCount;
        }

        int cutCount() {
            return cutCount;
        }

        boolean hasCorner(int corner) {
            return corner >= 0 && corner < corners;
        }

        boolean hasCut(int number) {
            return number >= 0 && number < cutCount;
        }

        /** The BITS of the CUT of a number; NONE if there is no such CUT. */
        int cutAt(int number) {
            return hasCut(number) ? cuts[number] : NONE;
        }

        /** The number of the CUT of some BITS; NONE if they are no CUT's. */
        int numberOf(int wanted) {
            int low = 0;
            int high = cutCount - 1;
            for (int round = 0; round < MOST_CUTS && low <= high; round++) {
                int middle = (low + high) >> 1;
                if (cuts[middle] == wanted) {
                    return middle;
                }
                if (cuts[middle] < wanted) {
                    low = middle + 1;
                } else {
                    high = middle - 1;
                }
            }
            return NONE;
        }

        boolean areNext(int i, int j) {
            int apart = Math.abs(i - j);
            return apart == 1 || apart == corners - 1;
        }

        /** The number of the LINE of two corners; NONE if they have none. */
        int lineOf(int i, int j) {
            return hasCorner(i) && hasCorner(j) ? numberOfLine[i * MOST_CORNERS + j] : NONE;
        }

        /** 16 times the lesser corner of a LINE, and the greater one. */
        int pairOf(int line) {
            return hasLine(line) ? 16 * lesser[line] + greater[line] : NONE;
        }

        int lesserOf(int line) {
            return hasLine(line) ? lesser[line] : NONE;
        }

        int greaterOf(int line) {
            return hasLine(line) ? greater[line] : NONE;
        }

        /** The BITS of the LINES that cross a LINE: none for what is no LINE. */
        int crossersOf(int line) {
            return hasLine(line) ? crossers[line] : 0;
        }

        private boolean hasLine(int line) {
            return line >= 0 && line < lineCount;
        }

        /** Whether a CUT has a LINE (never, if it is none). */
        boolean has(int cut, int line) {
            return hasLine(line) && (cut >> line & 1) != 0;
        }

        /** Whether two corners are next to each other, or a CUT has their LINE. */
        boolean areJoined(int cut, int i, int j) {
            return areNext(i, j) || has(cut, lineOf(i, j));
        }

        /** How many corners on from one corner another one comes. */
        int ahead(int from, int to) {
            return to >= from ? to - from : to - from + corners;
        }

        /** The CORNER ROW's number: a corner has one TRIANGLE more than LINES. */
        int trianglesAt(int cut, int corner) {
            return hasCorner(corner) ? 1 + Integer.bitCount(cut & linesAt[corner]) : 0;
        }

        /** The diamonds let an entry grow from the CORNER ROW between its corners alone. */
        int entryOf(int cut, int i, int j) {
            if (i == j) {
                return 0;
            }
            int before = 0;
            int here = 1;
            for (int corner = Math.min(i, j) + 1; corner < Math.max(i, j); corner++) {
                int grown = trianglesAt(cut, corner) * here - before;
                before = here;
                here = grown;
            }
            return here;
        }

        /** The LINE a FLIP puts in a LINE's stead: it alone crosses this one and no other of the CUT. */
        int otherLine(int cut, int line) {
            for (int other = 0; other < lineCount; other++) {
                if ((crossers[other] & cut) == 1 << line) {
                    return other;
                }
            }
            return NONE;
        }

        /** The number of the CUT that a FLIP brings a LINE into; NONE if no one FLIP does. */
        int neighbourWith(int cut, int line) {
            int lost = crossersOf(line) & cut;
            return Integer.bitCount(lost) == 1 ? numberOf(cut ^ lost | 1 << line) : NONE;
        }

        /** A CUT with all corners turned on by one, or mirrored: told from the other end. */
        private int moved(int cut, boolean mirrored) {
            int result = 0;
            for (int line = 0; line < lineCount; line++) {
                if (has(cut, line)) {
                    int one = movedCorner(lesser[line], mirrored);
                    int other = movedCorner(greater[line], mirrored);
                    result |= 1 << lineOf(one, other);
                }
            }
            return result;
        }

        private int movedCorner(int corner, boolean mirrored) {
            if (mirrored) {
                return corners - 1 - corner;
            }
            return corner + 1 == corners ? 0 : corner + 1;
        }

        private int leastTurned(int cut) {
            int best = cut;
            int turning = cut;
            for (int turn = 1; turn < corners; turn++) {
                turning = moved(turning, false);
                best = Math.min(best, turning);
            }
            return best;
        }

        /** The least BITS of the CUTS ALIKE to a CUT. */
        int leastAlike(int cut, boolean mirrored) {
            int best = leastTurned(cut);
            return mirrored ? Math.min(best, leastTurned(moved(cut, true))) : best;
        }

        /** Each kind is counted by its least CUT; most CUTS are soon seen to be none, so leastAlike is too dear. */
        int countKinds(boolean mirrored) {
            int found = 0;
            for (int number = 0; number < cutCount; number++) {
                int cut = cuts[number];
                if (neverTurnsBelow(cut, cut) && (!mirrored || neverTurnsBelow(moved(cut, true), cut))) {
                    found++;
                }
            }
            return found;
        }

        private boolean neverTurnsBelow(int cut, int least) {
            int turning = cut;
            for (int turn = 0; turn < corners; turn++) {
                if (turning < least) {
                    return false;
                }
                turning = moved(turning, false);
            }
            return true;
        }

        /** How much a CUT's CORNER ROW differs from a told row. */
        int differenceFrom(int[] told, int cut) {
            int sum = 0;
            for (int corner = 0; corner < corners && corner < told.length; corner++) {
                sum += Math.abs(told[corner] - trianglesAt(cut, corner));
            }
            return sum;
        }

        /** The number of the CUT that a told row is MENDED to. */
        int nearestTo(int[] told) {
            int best = 0;
            int fewest = differenceFrom(told, cutAt(0));
            for (int number = 1; number < cutCount && fewest > 0; number++) {
                int difference = differenceFrom(told, cuts[number]);
                if (difference < fewest) {
                    fewest = difference;
                    best = number;
                }
            }
            return best;
        }

        int greatestIn(int cut) {
            int most = 0;
            for (int i = 0; i < corners; i++) {
                most = Math.max(most, greatestFrom(cut, i));
            }
            return most;
        }

        /** The greatest entry of a corner and one behind it: all of them grow on the way to the last. */
        private int greatestFrom(int cut, int i) {
            int most = 0;
            int before = 0;
            int here = 1;
            for (int j = i + 1; j < corners; j++) {
                most = Math.max(most, here);
                int grown = trianglesAt(cut, j) * here - before;
                before = here;
                here = grown;
            }
            return most;
        }

        /** The least number of the CUTS with the GREATEST entry. */
        int numberOfGreatest() {
            int best = 0;
            int most = 0;
            for (int number = 0; number < cutCount; number++) {
                int here = greatestIn(cuts[number]);
                if (here > most) {
                    most = here;
                    best = number;
                }
            }
            return best;
        }

        /** The SPREAD of a number for two corners. */
        int countWith(int i, int j, int v) {
            int found = 0;
            for (int number = 0; number < cutCount; number++) {
                if (entryOf(cuts[number], i, j) == v) {
                    found++;
                }
            }
            return found;
        }
    }

    /** The reading of a CUT's text, with the FAULT that it ended on. */
    private static final class CutText {
        private static final int SYNTAX = 1;
        private static final int OUT_OF_RANGE = 2;
        private static final int TWICE = 3;
        private static final int NEXT = 4;
        private static final int CROSS = 5;
        private static final int FEW = 6;

        private static final int AT_HEAD = 0;
        private static final int AT_SIZE = 1;
        private static final int AT_FIRST = 2;
        private static final int AT_SECOND = 3;
        private static final int AT_SEMICOLON = 4;

        private int faultKind;
        private int faultPlace = NONE;
        private int expected;
        private int first;
        private Polygon polygon;
        private int bits;

        int faultKind() {
            return faultKind;
        }

        int faultPlace() {
            return faultPlace;
        }

        Polygon polygon() {
            return polygon;
        }

        int bits() {
            return bits;
        }

        /** Whether the text is a CUT: if so, polygon() and bits() are it. */
        boolean understand(Tape tape, Polygons polygons) {
            faultKind = 0;
            faultPlace = NONE;
            expected = AT_HEAD;
            polygon = null;
            bits = 0;
            tape.rewind();
            // Each TOKEN but the end has a byte of its own: so the end comes in time.
            for (int token = 0; token <= Tape.MOST_BYTES; token++) {
                tape.readToken();
                faultKind = takeToken(tape, polygons);
                if (faultKind != 0) {
                    faultPlace = tape.place();
                    return false;
                }
                if (tape.kind() == Tape.END) {
                    break;
                }
            }
            return polygon != null;
        }

        /** Goes on by a TOKEN: the KIND of its FAULT, 0 without. */
        private int takeToken(Tape tape, Polygons polygons) {
            switch (expected) {
                case AT_HEAD:
                    expected = AT_SIZE;
                    return tape.isWord("corners") ? 0 : SYNTAX;
                case AT_SIZE:
                    expected = AT_SEMICOLON;
                    if (tape.kind() != Tape.NUMBER) {
                        return SYNTAX;
                    }
                    polygon = polygons.withCorners(tape.value());
                    return polygon == null ? OUT_OF_RANGE : 0;
                case AT_FIRST:
                    expected = AT_SECOND;
                    return takeFirst(tape);
                case AT_SECOND:
                    expected = AT_SEMICOLON;
                    return tape.kind() == Tape.NUMBER ? takeSecond(tape.value()) : SYNTAX;
                default:
                    expected = AT_FIRST;
                    return tape.kind() == Tape.SEMICOLON ? 0 : SYNTAX;
            }
        }

        /** Where a LINE may begin the text may end too. */
        private int takeFirst(Tape tape) {
            if (polygon == null) {
                return SYNTAX;
            }
            if (tape.kind() == Tape.END) {
                return Integer.bitCount(bits) < polygon.corners() - 3 ? FEW : 0;
            }
            first = tape.value();
            if (tape.kind() != Tape.NUMBER) {
                return SYNTAX;
            }
            return polygon.hasCorner(first) ? 0 : OUT_OF_RANGE;
        }

        private int takeSecond(int second) {
            if (polygon == null || !polygon.hasCorner(second)) {
                return OUT_OF_RANGE;
            }
            int line = polygon.lineOf(first, second);
            if (line == NONE) {
                return NEXT;
            }
            if (polygon.has(bits, line)) {
                return TWICE;
            }
            if ((polygon.crossersOf(line) & bits) != 0) {
                return CROSS;
            }
            bits |= 1 << line;
            return 0;
        }
    }

    /** The TRIANGLES of a CUT, and the WAYS through them. */
    private static final class Triangles {
        private static final int MOST_TRIANGLES = MOST_CORNERS - 2;

        private final int[] cornersOf = new int[3 * MOST_TRIANGLES];
        private final int[] chosen = new int[MOST_TRIANGLES];
        private int count;
        private Polygon polygon;
        private int from;
        private int length;
        private int waysAhead;

        /** Any three corners joined by twos are a TRIANGLE: within them the polygon has no corner. */
        void gather(Polygon ofPolygon, int cut) {
            count = 0;
            for (int i = 0; i < ofPolygon.corners(); i++) {
                for (int j = i + 1; j < ofPolygon.corners(); j++) {
                    if (ofPolygon.areJoined(cut, i, j)) {
                        gatherOn(ofPolygon, cut, i, j);
                    }
                }
            }
        }

        private void gatherOn(Polygon ofPolygon, int cut, int i, int j) {
            for (int k = j + 1; k < ofPolygon.corners(); k++) {
                boolean closed = ofPolygon.areJoined(cut, i, k) && ofPolygon.areJoined(cut, j, k);
                if (closed && count < MOST_TRIANGLES) {
                    cornersOf[3 * count] = i;
                    cornersOf[3 * count + 1] = j;
                    cornersOf[3 * count + 2] = k;
                    count++;
                }
            }
        }

        int cornerOf(int t, int which) {
            if (t < 0 || t >= count || which < 0 || which > 2) {
                return NONE;
            }
            return cornersOf[3 * t + which];
        }

        private boolean touches(int t, int corner) {
            return cornerOf(t, 0) == corner || cornerOf(t, 1) == corner || cornerOf(t, 2) == corner;
        }

        /** The TRIANGLE of WAY k from i to j for the corner so many steps behind the first one. */
        int onWay(Polygon ofPolygon, int i, int j, int k, int step) {
            polygon = ofPolygon;
            from = i;
            length = ofPolygon.ahead(i, j) - 1;
            waysAhead = k;
            if (length > MOST_TRIANGLES || step < 0 || step >= length) {
                return NONE;
            }
            return choose(0, 0) ? chosen[step] : RANGE;
        }

        /** Chooses on from a step with some TRIANGLES used: whether the wanted WAY was come to. */
        private boolean choose(int step, int used) {
            if (step >= length || step >= MOST_TRIANGLES) {
                waysAhead--;
                return waysAhead < 0;
            }
            int corner = from + 1 + step;
            if (corner >= polygon.corners()) {
                corner -= polygon.corners();
            }
            for (int t = 0; t < count; t++) {
                if ((used >> t & 1) == 0 && touches(t, corner)) {
                    chosen[step] = t;
                    if (choose(step + 1, used | 1 << t)) {
                        return true;
                    }
                }
            }
            return false;
        }
    }

    /** The LINES CROSSED from a corner to another one, in the order from the first. */
    private static final class CrossedLines {
        private final int[] lines = new int[MOST_LINES];
        private int size;

        int size() {
            return size;
        }

        /** LINES that don't cross are come to by their spans, counted on from the first corner: falling. */
        void gather(Polygon polygon, int cut, int i, int j) {
            int met = polygon.crossersOf(polygon.lineOf(i, j)) & cut;
            size = 0;
            for (int span = polygon.corners() - 1; span > 0; span--) {
                for (int line = 0; line < polygon.lineCount(); line++) {
                    if (polygon.has(met, line) && spanFrom(polygon, i, line) == span && size < MOST_LINES) {
                        lines[size] = line;
                        size++;
                    }
                }
            }
        }

        private static int spanFrom(Polygon polygon, int corner, int line) {
            int one = polygon.ahead(corner, polygon.lesserOf(line));
            int other = polygon.ahead(corner, polygon.greaterOf(line));
            return Math.abs(one - other);
        }

        int pairAt(Polygon polygon, int k) {
            return k < 0 || k >= size ? NONE : polygon.pairOf(lines[k]);
        }

        /** The corner that LINE k and the one crossed next both have; NONE if there are no such two. */
        int sharedWithNext(Polygon polygon, int k) {
            if (k < 0 || k >= size - 1) {
                return NONE;
            }
            int low = polygon.lesserOf(lines[k]);
            int nextLow = polygon.lesserOf(lines[k + 1]);
            int nextHigh = polygon.greaterOf(lines[k + 1]);
            return low == nextLow || low == nextHigh ? low : polygon.greaterOf(lines[k]);
        }
    }

    /** FEWEST FLIPS from a CUT to all others, and THE WAY that was laid last. */
    private static final class Flips {
        private final int[] steps = new int[MOST_CUTS];
        private final int[] queue = new int[MOST_CUTS];
        private final int[] way = new int[MOST_CUTS];
        private int wayLength;
        private int queued;

        /** Goes out from a CUT until all are come to. */
        void measure(Polygon polygon, int start) {
            for (int number = 0; number < MOST_CUTS; number++) {
                steps[number] = NONE;
            }
            queued = 0;
            comeTo(start, 0);
            for (int at = 0; at < queued && at < MOST_CUTS; at++) {
                int cut = polygon.cutAt(queue[at]);
                for (int line = 0; line < polygon.lineCount(); line++) {
                    comeTo(polygon.neighbourWith(cut, line), stepsTo(queue[at]) + 1);
                }
            }
        }

        private void comeTo(int number, int step) {
            if (number >= 0 && number < MOST_CUTS && steps[number] == NONE && queued < MOST_CUTS) {
                steps[number] = step;
                queue[queued] = number;
                queued++;
            }
        }

        private int stepsTo(int number) {
            return number >= 0 && number < MOST_CUTS ? steps[number] : NONE;
        }

        int mostSteps(Polygon polygon) {
            int most = 0;
            for (int number = 0; number < polygon.cutCount(); number++) {
                most = Math.max(most, stepsTo(number));
            }
            return most;
        }

        int howManyAt(Polygon polygon, int step) {
            int found = 0;
            for (int number = 0; number < polygon.cutCount(); number++) {
                if (stepsTo(number) == step) {
                    found++;
                }
            }
            return found;
        }

        /** Measured from the goal, so that each step tells which CUTS are nearer to it. */
        int layWay(Polygon polygon, int start, int goal) {
            measure(polygon, goal);
            int total = stepsTo(start);
            int here = start;
            wayLength = 0;
            for (int flip = 0; flip <= total && flip < MOST_CUTS; flip++) {
                way[flip] = here;
                wayLength++;
                here = leastNearer(polygon, here);
            }
            return total;
        }

        private int leastNearer(Polygon polygon, int number) {
            int cut = polygon.cutAt(number);
            int best = NONE;
            for (int line = 0; line < polygon.lineCount(); line++) {
                int next = polygon.neighbourWith(cut, line);
                boolean nearer = next != NONE && stepsTo(next) == stepsTo(number) - 1;
                if (nearer && (best == NONE || next < best)) {
                    best = next;
                }
            }
            return best;
        }

        int onWay(int i) {
            return i >= 0 && i < wayLength ? way[i] : NONE;
        }
    }

    /** A PERIOD, told without an end both ways. */
    private static final class Endless {
        static final int MOST_NUMBERS = 10;
        static final int MOST_NUMBER = 20;
        static final int MOST_LENGTH = 12;

        private final int[] numbers = new int[MOST_NUMBERS];
        private int size = 1;

        Endless() {
            numbers[0] = 1;
        }

        int size() {
            return size;
        }

        boolean hasPlace(int i) {
            return i >= 0 && i < size;
        }

        boolean accepts(int[] row, int length) {
            if (length < 1 || length > MOST_NUMBERS || length > row.length) {
                return false;
            }
            for (int i = 0; i < length; i++) {
                if (row[i] < 1 || row[i] > MOST_NUMBER) {
                    return false;
                }
            }
            return true;
        }

        int become(int[] row, int length) {
            size = Math.min(length, MOST_NUMBERS);
            for (int i = 0; i < size && i < row.length; i++) {
                numbers[i] = row[i];
            }
            return size;
        }

        /** The number at any place, as the PERIOD goes on. */
        int at(int i) {
            return numbers[wrapped(i)];
        }

        private int wrapped(int i) {
            return size > 0 ? Math.floorMod(i, size) : 0;
        }

        long entryAt(int i, int length) {
            if (length <= 0) {
                return 0;
            }
            long before = 0;
            long here = 1;
            for (int l = 1; l < length && l < MOST_LENGTH; l++) {
                long grown = at(i + l) * here - before;
                before = here;
                here = grown;
            }
            return here;
        }

        /** The least length at which it BREAKS; NONE if it doesn't. */
        int breakLength() {
            for (int length = 2; length <= MOST_LENGTH; length++) {
                if (breakPlace(length) != NONE) {
                    return length;
                }
            }
            return NONE;
        }

        /** The least i with an ENTRY of a length that is 0 or less; NONE if there is none. */
        int breakPlace(int length) {
            for (int i = 0; i < size; i++) {
                if (entryAt(i, length) <= 0) {
                    return i;
                }
            }
            return NONE;
        }

        boolean comesBack(int length) {
            return allAre(length, 0) && (length == MOST_LENGTH || allAre(length + 1, -1));
        }

        private boolean allAre(int length, long wanted) {
            for (int i = 0; i < size; i++) {
                if (entryAt(i, length) != wanted) {
                    return false;
                }
            }
            return true;
        }

        long growthOfRound() {
            return entryAt(0, size + 1) - entryAt(1, size - 1);
        }

        boolean canGlue(int i) {
            if (size >= MOST_NUMBERS) {
                return false;
            }
            // Of a PERIOD of one both neighbours of the new corner are the same number.
            int grows = size == 1 ? 2 : 1;
            return at(i) + grows <= MOST_NUMBER && at(i + 1) + grows <= MOST_NUMBER;
        }

        int glueBehind(int i) {
            if (!hasPlace(i) || !canGlue(i)) {
                return size;
            }
            numbers[i]++;
            numbers[wrapped(i + 1)]++;
            for (int place = size; place > i + 1; place--) {
                numbers[place] = numbers[place - 1];
            }
            numbers[i + 1] = 1;
            size++;
            return size;
        }

        boolean canLose(int i) {
            return size >= 3 && at(i) == 1 && at(i - 1) > 1 && at(i + 1) > 1;
        }

        int lose(int i) {
            if (!hasPlace(i) || !canLose(i)) {
                return size;
            }
            numbers[wrapped(i - 1)]--;
            numbers[wrapped(i + 1)]--;
            for (int place = i; place + 1 < size; place++) {
                numbers[place] = numbers[place + 1];
            }
            size--;
            return size;
        }

        /** The PERIOD becomes its CORE: how many were CUT OFF. */
        int loseAll() {
            int lost = 0;
            for (int round = 0; round < MOST_NUMBERS; round++) {
                int one = firstOne();
                if (one == NONE || !canLose(one)) {
                    break;
                }
                lose(one);
                lost++;
            }
            return lost;
        }

        private int firstOne() {
            for (int i = 0; i < size; i++) {
                if (numbers[i] == 1) {
                    return i;
                }
            }
            return NONE;
        }
    }

    /** What was SEEN, and what of it was put RIGHT, in the order of telling. */
    private static final class Sightings {
        static final int MOST_SEEN = 20;
        static final int MOST_RIGHTS = 20;

        private final int[] seenStep = new int[MOST_SEEN];
        private final int[] seenFrom = new int[MOST_SEEN];
        private final int[] seenTo = new int[MOST_SEEN];
        private final int[] seenValue = new int[MOST_SEEN];
        private final int[] timesRight = new int[MOST_SEEN];
        private final int[] rightStep = new int[MOST_RIGHTS];
        private final int[] rightOf = new int[MOST_RIGHTS];
        private final int[] rightValue = new int[MOST_RIGHTS];
        private final int[] knownValue = new int[MOST_SEEN];
        private int size;
        private int rights;
        private int latest;

        int size() {
            return size;
        }

        int rights() {
            return rights;
        }

        private boolean has(int k) {
            return k >= 0 && k < size;
        }

        /** Whether there is such a one, told ahead of a STEP: it is put RIGHT at a later one. */
        boolean wasSeenBefore(int step, int k) {
            return has(k) && seenStep[k] < step;
        }

        boolean canTell(int step) {
            return step >= latest && step <= LAST_STEP;
        }

        void forget() {
            size = 0;
            rights = 0;
            latest = 0;
        }

        int add(int step, int from, int to, int value) {
            if (size >= MOST_SEEN) {
                return FULL;
            }
            seenStep[size] = step;
            seenFrom[size] = from;
            seenTo[size] = to;
            seenValue[size] = value;
            timesRight[size] = 0;
            latest = step;
            size++;
            return size - 1;
        }

        int putRight(int step, int k, int value) {
            if (rights >= MOST_RIGHTS || !has(k)) {
                return FULL;
            }
            rightStep[rights] = step;
            rightOf[rights] = k;
            rightValue[rights] = value;
            latest = step;
            rights++;
            timesRight[k]++;
            return timesRight[k];
        }

        /** Brings all entries to what was known of them at a STEP: NONE where nothing was told yet. */
        void recall(int step) {
            for (int k = 0; k < size; k++) {
                knownValue[k] = seenStep[k] <= step ? seenValue[k] : NONE;
            }
            for (int r = 0; r < rights; r++) {
                if (rightStep[r] <= step && has(rightOf[r])) {
                    knownValue[rightOf[r]] = rightValue[r];
                }
            }
        }

        /** Whether a CUT's FRIEZE has all entries as recalled. */
        boolean agreeWith(Polygon polygon, int cut) {
            for (int k = 0; k < size; k++) {
                boolean known = knownValue[k] != NONE;
                if (known && polygon.entryOf(cut, seenFrom[k], seenTo[k]) != knownValue[k]) {
                    return false;
                }
            }
            return true;
        }
    }

    /** All CUTS that FIT, as gathered last. */
    private static final class Fitting {
        private static final int MOST_ENTRY = 21;

        private final int[] numbers = new int[MOST_CUTS];
        private final int[] tally = new int[MOST_ENTRY + 1];
        private int size;

        int size() {
            return size;
        }

        void gather(Polygon polygon, Sightings sightings, int step) {
            sightings.recall(step);
            size = 0;
            for (int number = 0; number < polygon.cutCount() && number < MOST_CUTS; number++) {
                if (sightings.agreeWith(polygon, polygon.cutAt(number))) {
                    numbers[size] = number;
                    size++;
                }
            }
        }

        int leastNumber() {
            return size > 0 ? numbers[0] : NONE;
        }

        /** 1 if all that FIT have a LINE, 0 if none has, 2 else; NONE if none FIT. */
        int howSure(Polygon polygon, int line) {
            int having = 0;
            for (int at = 0; at < size; at++) {
                if (polygon.has(polygon.cutAt(numbers[at]), line)) {
                    having++;
                }
            }
            if (size == 0) {
                return NONE;
            }
            return having == size ? 1 : having == 0 ? 0 : 2;
        }

        /** The two corners to ASK for next (those next to each other tell nothing); NONE if all that FIT agree in all. */
        int bestQuestion(Polygon polygon) {
            int best = NONE;
            int fewest = size;
            for (int line = 0; line < polygon.lineCount(); line++) {
                int most = mostAgreeing(polygon, polygon.lesserOf(line), polygon.greaterOf(line));
                if (most < fewest) {
                    fewest = most;
                    best = polygon.pairOf(line);
                }
            }
            return best;
        }

        private int mostAgreeing(Polygon polygon, int i, int j) {
            for (int v = 0; v <= MOST_ENTRY; v++) {
                tally[v] = 0;
            }
            int most = 0;
            for (int at = 0; at < size; at++) {
                int v = polygon.entryOf(polygon.cutAt(numbers[at]), i, j);
                if (v >= 0 && v <= MOST_ENTRY) {
                    tally[v]++;
                    most = Math.max(most, tally[v]);
                }
            }
            return most;
        }
    }
}
