/** Promises 32 to 38: balls, what was heard, what it costs, damp told by it, and when a clock went out. */
public final class BellTest {
    private static final Check check = new Check();

    public static void main(String[] args) {
        hangs();
        drops();
        hears();
        hushes();
        costs();
        costsOfLeavingOut();
        costsOfManyPairs();
        costsRefused();
        slows();
        slowOfAllClocks();
        slowKeepsDamp();
        slowsRefused();
        gones();
        gonesAlongThePath();
        goneWidths();
        gonesRefused();
        check.end();
    }

    private static void hangs() {
        SmellHours x = new SmellHours();
        Check.lineClock(x, 2, 3, 0);
        check.due("clock 4", x.hang(4, 0), Check.UNKNOWN);
        check.due("clock -1", x.hang(-1, 0), Check.UNKNOWN);
        check.due("cell 3", x.hang(2, 3), Check.UNKNOWN);
        check.due("cell -1", x.hang(2, -1), Check.UNKNOWN);
        check.due("a clock without cells", x.hang(0, 0), Check.UNKNOWN);
        for (int wild : Check.WILD) {
            check.due("hang wild c", x.hang(wild, 0), Check.UNKNOWN);
            check.due("hang wild i", x.hang(2, wild), Check.UNKNOWN);
        }
        check.due("no balls", x.count(0), 0);
        for (int k = 0; k < 12; k++) {
            check.due("hang " + k, x.hang(2, k % 3), k);
        }
        check.due("one more", x.hang(2, 0), Check.FULL);
        check.due("cell 3, when full", x.hang(2, 3), Check.UNKNOWN);
        check.due("twelve balls", x.count(0), 12);
    }

    private static void drops() {
        SmellHours x = new SmellHours();
        Check.lineClock(x, 0, 3, 0);
        Check.lineClock(x, 1, 3, 0);
        x.hang(0, 2);
        x.hang(1, 1);
        x.hang(0, 0);
        check.due("not lit", x.drops(0), Check.NONE);
        x.light(0, 0, 33);
        check.due("ball 0", x.drops(0), 53);
        check.due("ball 1 never", x.drops(1), Check.NONE);
        check.due("ball 2", x.drops(2), 33);
        check.due("ball 3", x.drops(3), Check.UNKNOWN);
        check.due("ball -1", x.drops(-1), Check.UNKNOWN);
        for (int wild : Check.WILD) {
            check.due("drops wild", x.drops(wild), Check.UNKNOWN);
        }
        x.link(0, 1, 1);
        check.due("ball 1 by a link", x.drops(1), 53);
    }

    private static void hears() {
        SmellHours x = new SmellHours();
        check.due("hear -1", x.hear(-1), Check.OUTSIDE);
        check.due("hear 20001", x.hear(20001), Check.OUTSIDE);
        check.due("hear 0", x.hear(0), 1);
        check.due("hear 0 again", x.hear(0), 2);
        check.due("hear 7", x.hear(7), 3);
        check.due("hear 6", x.hear(6), Check.OUTSIDE);
        check.due("hear 7 again", x.hear(7), 4);
        check.due("hear 20000", x.hear(20000), 5);
        check.due("hear 19999", x.hear(19999), Check.OUTSIDE);
        for (int wild : Check.WILD) {
            check.due("hear wild", x.hear(wild), Check.OUTSIDE);
        }
        for (int k = 6; k <= 24; k++) {
            check.due("hear " + k, x.hear(20000), k);
        }
        check.due("one more", x.hear(20000), Check.FULL);
        check.due("below the one ahead, when full", x.hear(5), Check.OUTSIDE);
        check.due("twenty-four", x.count(1), 24);
    }

    private static void hushes() {
        SmellHours x = new SmellHours();
        check.due("hush of nothing", x.hush(), 0);
        x.hear(500);
        x.hear(600);
        check.due("hush", x.hush(), 2);
        check.due("nothing was heard", x.count(1), 0);
        check.due("hear anew, below", x.hear(3), 1);
        check.due("cost of that", x.cost(0), 20);
    }

    /** Clock 0: a line of six cells that begin at 0, 10, 20 .. when lit at 0; balls hang where told. */
    private static SmellHours balls(int... cells) {
        SmellHours x = new SmellHours();
        Check.lineClock(x, 0, 6, 0);
        for (int cell : cells) {
            x.hang(0, cell);
        }
        x.light(0, 0, 1000);
        return x;
    }

    private static void costs() {
        SmellHours x = balls(3, 1);
        check.due("nothing heard", x.cost(0), 40);
        x.hear(1012);
        check.due("one pair, one left out", x.cost(0), 22);
        x.hear(1027);
        check.due("two pairs, rising", x.cost(0), 5);
        x.hear(1028);
        check.due("one heard is left out", x.cost(0), 24);
        check.due("another clock's cost", x.cost(1), 60);
        x.light(0, 2, 1000);
        // Cells 1 and 3 both begin at 1010: 1012 and 1027.
        check.due("drops at one tick", x.cost(0), 39);
        x.light(0, 0, Check.NONE);
        check.due("balls that never drop cost nothing", x.cost(0), 60);
    }

    private static void costsOfLeavingOut() {
        SmellHours x = balls(0);
        x.hear(1040);
        check.due("a pair as dear as both left out", x.cost(0), 40);
        x.hush();
        x.hear(1039);
        check.due("a pair less dear", x.cost(0), 39);
        x.hush();
        x.hear(1041);
        check.due("a pair that is dearer", x.cost(0), 40);
        x.hush();
        x.hear(961);
        check.due("heard ahead of it", x.cost(0), 39);
        x.hear(1001);
        check.due("the nearer one is paired", x.cost(0), 21);
        x.hear(1001);
        check.due("one only is paired", x.cost(0), 41);
    }

    private static void costsOfManyPairs() {
        SmellHours x = balls(0, 1, 2, 3, 4, 5, 5, 4, 3, 2, 1, 0);
        for (int k = 0; k < 24; k++) {
            x.hear(1000 + (k / 4) * 10);
        }
        check.due("twelve pairs, twelve left out", x.cost(0), 240);
        x.hush();
        for (int k = 0; k < 24; k++) {
            x.hear(20000);
        }
        check.due("all left out", x.cost(0), 720);
        x.hush();
        // Drops 1000 1000 1010 1010 ..; pairs keep their order.
        x.hear(1050);
        x.hear(1050);
        x.hear(1051);
        // 1050 with 1050, 1050 with 1050, 1051 left out: or 1040 with 1050, 1050 with 1050, 1050 with 1051.
        check.due("three heard", x.cost(0), 9 * 20 + 11);
    }

    private static void costsRefused() {
        SmellHours x = balls(0);
        check.due("clock 4", x.cost(4), Check.UNKNOWN);
        check.due("clock -1", x.cost(-1), Check.UNKNOWN);
        for (int wild : Check.WILD) {
            check.due("cost wild", x.cost(wild), Check.UNKNOWN);
        }
    }

    private static void slows() {
        SmellHours x = balls(1, 2);
        x.rate(0, 50);
        x.hear(1060);
        x.hear(1120);
        // 50 * 120 / 100 = 60: so damp 20 tells it just.
        check.due("slow", x.slow(0, 0), 20);
        check.due("its cost", x.slow(0, 1), 0);
        check.due("its cost is another now", x.cost(0), 30);
        x.rate(0, 10);
        x.hush();
        x.hear(1014);
        x.hear(1028);
        // 14 ticks for each of the damps 40 .. 49.
        check.due("the least of like ones", x.slow(0, 0), 40);
        check.due("the cost of like ones", x.slow(0, 1), 0);
        x.hush();
        x.hear(1400);
        check.due("of all alike 0", x.slow(0, 0), 0);
        check.due("all left out", x.slow(0, 1), 60);
        x.hush();
        x.hear(1015);
        x.hear(1030);
        check.due("damp 50", x.slow(0, 0), 50);
        check.due("damp 50's cost", x.slow(0, 1), 0);
    }

    private static void slowOfAllClocks() {
        SmellHours x = new SmellHours();
        Check.lineClock(x, 0, 2, 0);
        Check.lineClock(x, 1, 2, 0);
        x.rate(0, 20);
        x.link(0, 1, 1);
        x.light(0, 0, 0);
        x.hang(1, 1);
        x.hear(50);
        // Lit at 25 and dropped at 50, with all as damp as that.
        check.due("damp of the clock that lights it, too", x.slow(1, 0), 25);
        check.due("its cost", x.slow(1, 1), 0);
        check.due("of a clock without balls", x.slow(0, 0), 0);
        check.due("the cost of one without balls", x.slow(0, 1), 20);
        check.due("of a clock without cells", x.slow(3, 1), 20);
    }

    private static void slowKeepsDamp() {
        SmellHours x = balls(2);
        x.damp(0, 99, 30);
        x.hear(1020);
        check.due("cost with the damp", x.cost(0), 6);
        check.due("slow looks at all alike", x.slow(0, 0), 0);
        check.due("the damp is as it was", x.cost(0), 6);
        check.due("the night is as it was", x.burns(0, 2, 0), 1026);
    }

    private static void slowsRefused() {
        SmellHours x = balls(0);
        check.due("what 2", x.slow(0, 2), Check.OUTSIDE);
        check.due("what -1", x.slow(0, -1), Check.OUTSIDE);
        check.due("clock 4", x.slow(4, 2), Check.UNKNOWN);
        check.due("clock -1", x.slow(-1, 0), Check.UNKNOWN);
        for (int wild : Check.WILD) {
            check.due("slow wild c", x.slow(wild, 0), Check.UNKNOWN);
            check.due("slow wild what", x.slow(0, wild), Check.OUTSIDE);
        }
    }

    private static void gone(String what, SmellHours x, int[] asked, int least, int greatest, int lights) {
        for (int k = 0; k < 3; k++) {
            int want = k == 0 ? least : k == 1 ? greatest : lights;
            int got = x.gone(0, asked[0], asked[1], asked[2], asked[3], asked[4], k);
            check.due(what + ", what = " + k, got, want);
        }
    }

    private static void gones() {
        SmellHours x = balls();
        gone("no balls", x, new int[] {2, 5999, 100, 400, 0}, 130, 430, 301);
        gone("burnt at t", x, new int[] {2, 140, 100, 400, 0}, 130, 140, 11);
        gone("one light", x, new int[] {2, 130, 100, 100, 0}, 130, 130, 1);
        gone("too late for it", x, new int[] {2, 129, 100, 100, 0}, Check.NONE, Check.NONE, 0);
        gone("cell 0", x, new int[] {0, 5999, 0, 0, 0}, 10, 10, 1);
        x.hang(0, 2);
        gone("a ball, nothing heard", x, new int[] {2, 5999, 100, 400, 60}, Check.NONE, Check.NONE, 0);
        gone("a ball behind p", x, new int[] {1, 5999, 100, 400, 60}, 120, 420, 301);
        x.hear(200);
        gone("a ball at p", x, new int[] {2, 5999, 100, 400, 3}, 207, 213, 7);
        x.hang(0, 0);
        gone("two balls, one heard", x, new int[] {2, 5999, 100, 400, 3}, Check.NONE, Check.NONE, 0);
        gone("two balls, one heard, wide", x, new int[] {2, 5999, 100, 400, 10}, 220, 220, 1);
        x.hear(220);
        gone("two balls, both heard", x, new int[] {2, 5999, 100, 400, 0}, 230, 230, 1);
        x.light(0, 0, Check.NONE);
        gone("the night is nothing to it", x, new int[] {2, 5999, 100, 400, 0}, 230, 230, 1);
        otherClocksBall(x);
    }

    private static void otherClocksBall(SmellHours x) {
        Check.lineClock(x, 1, 3, 0);
        x.hang(1, 0);
        gone("another clock's ball", x, new int[] {2, 5999, 100, 400, 0}, 230, 230, 1);
    }

    /** Damp, unlike powders, and no jump where walls are not sound; a later light may be burnt earlier. */
    private static void gonesAlongThePath() {
        SmellHours x = new SmellHours();
        Check.snake(x, 0, 2, 2);
        x.mount(0, 0);
        x.bring(0, 3, 4);
        x.rate(3, 40);
        for (int i = 0; i < 4; i++) {
            x.lay(0, i, 3, 0);
        }
        gone("all along the path", x, new int[] {3, 5999, 0, 0, 0}, 160, 160, 1);
        x.damp(0, 0, 50);
        // Lit at 59: 60 ticks and 40; lit at 60: 40 and 40.
        gone("lit at 59 and 60", x, new int[] {1, 5999, 59, 60, 0}, 140, 159, 2);
        gone("lit at 60 alone is burnt by 150", x, new int[] {1, 150, 59, 60, 0}, 140, 140, 1);
        gone("the last hour goes on", x, new int[] {1, 5999, 5990, 5990, 0}, Check.NONE, Check.NONE, 0);
        x.damp(99, 99, 50);
        gone("in the last hour", x, new int[] {0, 5999, 5939, 5940, 0}, 5979, 5979, 1);
    }

    private static void goneWidths() {
        SmellHours x = balls(1);
        x.hear(300);
        gone("width 0", x, new int[] {1, 5999, 200, 400, 0}, 310, 310, 1);
        gone("width 60", x, new int[] {1, 5999, 200, 400, 60}, 250, 370, 121);
    }

    private static void gonesRefused() {
        SmellHours x = balls(1);
        x.sweep(0, 0);
        x.lay(0, 0, 0, 0);
        x.lay(0, 1, 0, 0);
        x.lay(0, 3, 0, 0);
        check.due("cell 2 is bare", x.gone(0, 3, 10, 0, 0, 0, 0), Check.NOT);
        check.due("cell 2 is bare itself", x.gone(0, 2, 10, 0, 0, 0, 2), Check.NOT);
        check.due("up to cell 1", x.gone(0, 1, 10, 0, 0, 0, 2), 0);
        Check.line(x, 0, 2);
        x.mount(1, 0);
        x.lay(1, 1, 0, 0);
        check.due("cell 0 is bare", x.gone(1, 1, 10, 0, 0, 0, 0), Check.NOT);
        check.due("clock 4", x.gone(4, 0, 6000, 0, 0, 0, 0), Check.UNKNOWN);
        check.due("clock -1", x.gone(-1, 0, 0, 0, 0, 0, 0), Check.UNKNOWN);
        check.due("cell 6", x.gone(0, 6, 6000, 0, 0, 0, 0), Check.UNKNOWN);
        check.due("cell -1", x.gone(0, -1, 0, 0, 0, 0, 0), Check.UNKNOWN);
        check.due("a clock without cells", x.gone(2, 0, 0, 0, 0, 0, 0), Check.UNKNOWN);
        check.due("t 6000, though bare", x.gone(0, 3, 6000, 0, 0, 0, 0), Check.OUTSIDE);
        check.due("t -1", x.gone(0, 1, -1, 0, 0, 0, 0), Check.OUTSIDE);
        check.due("a -1", x.gone(0, 1, 0, -1, 0, 0, 0), Check.OUTSIDE);
        check.due("b 6000", x.gone(0, 1, 0, 5999, 6000, 0, 0), Check.OUTSIDE);
        check.due("b below a", x.gone(0, 1, 0, 10, 9, 0, 0), Check.OUTSIDE);
        check.due("301 apart", x.gone(0, 1, 0, 10, 311, 0, 0), Check.OUTSIDE);
        check.due("300 apart", x.gone(0, 1, 0, 10, 310, 0, 2), 0);
        check.due("width -1", x.gone(0, 1, 0, 0, 0, -1, 0), Check.OUTSIDE);
        check.due("width 61", x.gone(0, 1, 0, 0, 0, 61, 0), Check.OUTSIDE);
        check.due("what -1", x.gone(0, 1, 0, 0, 0, 0, -1), Check.OUTSIDE);
        check.due("what 3", x.gone(0, 1, 0, 0, 0, 0, 3), Check.OUTSIDE);
        for (int wild : Check.WILD) {
            check.due("gone wild c", x.gone(wild, 1, 0, 0, 0, 0, 0), Check.UNKNOWN);
            check.due("gone wild p", x.gone(0, wild, 0, 0, 0, 0, 0), Check.UNKNOWN);
            check.due("gone wild t", x.gone(0, 1, wild, 0, 0, 0, 0), Check.OUTSIDE);
            check.due("gone wild a", x.gone(0, 1, 0, wild, 0, 0, 0), Check.OUTSIDE);
            check.due("gone wild b", x.gone(0, 1, 0, 0, wild, 0, 0), Check.OUTSIDE);
            check.due("gone wild width", x.gone(0, 1, 0, 0, 0, wild, 0), Check.OUTSIDE);
            check.due("gone wild what", x.gone(0, 1, 0, 0, 0, 0, wild), Check.OUTSIDE);
        }
    }
}
