/** Counts the answers of a test that are not as due, and puts texts on a tape. */
final class Check {
    private int asked = 0;
    private int wrong = 0;

    void due(String call, long got, long want) {
        asked++;
        if (got != want) {
            wrong++;
            System.out.println(call + " answered " + got + ", due is " + want);
        }
    }

    void holds(String what, boolean holds) {
        due(what, holds ? 1 : 0, 1);
    }

    /** Ends the test: with exit code 1 if an answer was wrong, or none was asked for. */
    void finish() {
        System.out.println(asked + " answers looked at, " + wrong + " wrong");
        if (wrong != 0 || asked == 0) {
            System.exit(1);
        }
    }

    /** Lets the tape be a text of at most 300 signs. */
    static void tape(DiamondRows x, String text) {
        x.end(0);
        StringBuilder padded = new StringBuilder(text);
        while (padded.length() % 20 != 0) {
            padded.append(' ');
        }
        for (int at = 0; at < padded.length(); at += 20) {
            x.feed(four(padded, at), four(padded, at + 4), four(padded, at + 8), four(padded, at + 12),
                four(padded, at + 16));
        }
        x.end(text.length());
    }

    static int four(CharSequence text, int at) {
        return (text.charAt(at) & 255) << 24 | (text.charAt(at + 1) & 255) << 16
            | (text.charAt(at + 2) & 255) << 8 | text.charAt(at + 3) & 255;
    }

    static int cut(DiamondRows x, String text) {
        tape(x, text);
        return x.cut();
    }

    static int read(DiamondRows x, String text) {
        tape(x, text);
        return x.read();
    }

    static int mend(DiamondRows x, String text) {
        tape(x, text);
        return x.mend();
    }

    static int period(DiamondRows x, String text) {
        tape(x, text);
        return x.period();
    }
}
