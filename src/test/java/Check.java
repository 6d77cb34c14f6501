/** Holds answers against what is due, tells each that is not, and ends the test with exit code 1 if there was one. */
final class Check {
    static final int NONE = -1, UNKNOWN = -1001, OUTSIDE = -1002, NOT = -1003, FULL = -1004, SPENT = -1005;
    static final int[] WILD = {Integer.MIN_VALUE, -1001, -2, Integer.MAX_VALUE};

    private int checks;
    private int wrong;

    void due(String call, long got, long want) {
        checks++;
        if (got != want) {
            wrong++;
            System.out.println(call + " answered " + got + ", due is " + want);
        }
    }

    void holds(String what, boolean is) {
        checks++;
        if (!is) {
            wrong++;
            System.out.println(what + " does not hold");
        }
    }

    int checks() {
        return checks;
    }

    int wrong() {
        return wrong;
    }

    void end() {
        System.out.println(checks + " checks, " + wrong + " wrong");
        if (wrong != 0) {
            System.exit(1);
        }
    }

    /** A seal that is a line of n squares, its path from end to end. */
    static void line(SmellHours x, int s, int n) {
        x.board(s, n, 1);
        for (int i = 0; i < n; i++) {
            x.go(s, i);
        }
    }

    /** A path through all squares of a board, row by row, forth and back. */
    static void snake(SmellHours x, int s, int w, int h) {
        x.board(s, w, h);
        for (int y = 0; y < h; y++) {
            for (int k = 0; k < w; k++) {
                x.go(s, y * w + (y % 2 == 0 ? k : w - 1 - k));
            }
        }
    }

    /** Clock c with a line of n cells, each with a grain of one powder; grains come from jar 0. */
    static void lineClock(SmellHours x, int c, int n, int powder) {
        line(x, 5, n);
        x.mount(c, 5);
        x.bring(0, powder, n);
        for (int i = 0; i < n; i++) {
            x.lay(c, i, powder, 0);
        }
    }

    /** Feeds a text, as many bytes at a time as a call takes, so that an object's calls are enough for many texts. */
    static void feed(SmellHours x, String text) {
        for (int from = 0; from < text.length(); from += 8) {
            int n = Math.min(8, text.length() - from);
            long bytes = 0;
            for (int k = 0; k < n; k++) {
                bytes = bytes << 8 | text.charAt(from + k);
            }
            x.feed(n, bytes);
        }
    }
}
