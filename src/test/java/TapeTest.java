/** Promises 2, 3 and 39: THE TAPE, and what is counted. */
final class TapeTest {
    public static void main(String[] args) {
        Check check = new Check();
        fill(check);
        order(check);
        emptied(check);
        counts(check);
        check.finish();
    }

    private static void fill(Check check) {
        DiamondRows x = new DiamondRows();
        for (int size = 20; size <= 300; size += 20) {
            check.due("feed", x.feed(1, 2, 3, 4, 5), size);
        }
        check.due("feed beyond 300", x.feed(1, 2, 3, 4, 5), DiamondRows.FULL);
        check.due("count(2)", x.count(2), 300);
        check.due("end(301)", x.end(301), DiamondRows.NONE);
        check.due("end(-1)", x.end(-1), DiamondRows.NONE);
        check.due("end(least)", x.end(Integer.MIN_VALUE), DiamondRows.NONE);
        check.due("end(most)", x.end(Integer.MAX_VALUE), DiamondRows.NONE);
        check.due("end(300)", x.end(300), 300);
        check.due("end(281)", x.end(281), 281);
        check.due("feed with 19 bytes of room", x.feed(0, 0, 0, 0, 0), DiamondRows.FULL);
        check.due("count(2)", x.count(2), 281);
        check.due("end(280)", x.end(280), 280);
        check.due("feed with 20 bytes of room", x.feed(0, 0, 0, 0, 0), 300);
        check.due("end(0)", x.end(0), 0);
        check.due("end(1) of nothing", x.end(1), DiamondRows.NONE);
        check.due("end(0) of nothing", x.end(0), 0);
    }

    private static void order(Check check) {
        DiamondRows x = new DiamondRows();
        x.feed(0x31203220, 0x33203420, 0x35203620, 0x37203820, 0x39203130);
        check.due("period", x.period(), 10);
        for (int i = 0; i < 10; i++) {
            check.due("of(" + i + ")", x.of(i), i + 1);
        }
        x.feed(0x31320000, 0, 0, 0, 0);
        x.end(2);
        x.feed(0x20340000, 0, 0, 0, 0);
        x.end(4);
        check.due("what comes behind an end", x.period(), 2);
        check.due("of(0)", x.of(0), 12);
        check.due("of(1)", x.of(1), 4);
    }

    private static void emptied(Check check) {
        for (String text : new String[] {"corners 4;0 2;", "1 2 1 2", "?", "1", " "}) {
            for (int call = 0; call < 4; call++) {
                DiamondRows x = new DiamondRows();
                Check.tape(x, text);
                check.due("count(2)", x.count(2), text.length());
                int told = call == 0 ? x.cut() : call == 1 ? x.read() : call == 2 ? x.mend() : x.period();
                check.due("count(2) behind a call that told " + told, x.count(2), 0);
            }
        }
    }

    private static void counts(Check check) {
        DiamondRows x = new DiamondRows();
        x.take(5, 0);
        x.see(0, 0, 2, 1);
        x.see(0, 0, 3, 1);
        x.see(1, 1, 3, 1);
        x.right(2, 0, 2);
        x.right(2, 0, 3);
        Check.tape(x, "abcd");
        check.due("count(0)", x.count(0), 3);
        check.due("count(1)", x.count(1), 2);
        check.due("count(2)", x.count(2), 4);
        check.due("count(3)", x.count(3), DiamondRows.NONE);
        check.due("count(-1)", x.count(-1), DiamondRows.NONE);
    }
}
