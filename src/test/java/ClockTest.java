/** Promises 17 to 23: clocks, their grains, the row of scents. */
public final class ClockTest {
    private static final Check check = new Check();

    public static void main(String[] args) {
        mounts();
        mountForgets();
        mountKeepsOthers();
        mountKeepsItsPath();
        lays();
        grains();
        sweeps();
        sweepsFull();
        fullBoard();
        rows();
        fills();
        fillsByDamp();
        fillsFromJars();
        fillsRefused();
        spills();
        spillsOverlapping();
        check.end();
    }

    private static void mounts() {
        SmellHours x = new SmellHours();
        Check.snake(x, 1, 6, 6);
        check.due("mount 36", x.mount(3, 1), 36);
        check.due("all bare", x.grain(3, 35), Check.NONE);
        check.due("no cell 36", x.grain(3, 36), Check.UNKNOWN);
        Check.line(x, 2, 2);
        check.due("mount anew", x.mount(3, 2), 2);
        check.due("still bare", x.grain(3, 1), Check.NONE);
        check.due("no cell 2", x.grain(3, 2), Check.UNKNOWN);
        check.due("one is mounted", x.count(4), 1);
        check.due("a seal without a path", x.mount(0, 3), Check.NOT);
        check.due("none more is mounted", x.count(4), 1);
        check.due("clock 4", x.mount(4, 3), Check.UNKNOWN);
        check.due("clock -1", x.mount(-1, 2), Check.UNKNOWN);
        check.due("seal 6", x.mount(0, 6), Check.UNKNOWN);
        check.due("seal -1", x.mount(0, -1), Check.UNKNOWN);
        x.bring(0, 0, 1);
        x.lay(3, 1, 0, 0);
        check.due("it has grains", x.mount(3, 1), Check.NOT);
        check.due("the grain stays", x.grain(3, 1), 0);
        check.due("seal 6, though it has grains", x.mount(3, 6), Check.UNKNOWN);
        for (int wild : Check.WILD) {
            check.due("mount wild c", x.mount(wild, 2), Check.UNKNOWN);
            check.due("mount wild s", x.mount(0, wild), Check.UNKNOWN);
        }
    }

    private static void mountForgets() {
        SmellHours x = new SmellHours();
        Check.line(x, 0, 3);
        for (int c = 0; c < 3; c++) {
            x.mount(c, 0);
        }
        x.light(0, 0, 1);
        x.light(1, 1, 2);
        x.link(0, 0, 1);
        x.link(1, 0, 2);
        x.link(2, 0, 0);
        x.link(2, 2, 1);
        x.link(0, 2, 2);
        x.again(1, 0, 5);
        x.again(0, 0, 5);
        x.again(1, 0, 4);
        x.hang(1, 0);
        x.hang(0, 1);
        x.hang(1, 2);
        x.hang(2, 2);
        check.due("refused: no path", x.mount(1, 3), Check.NOT);
        check.due("links stay", x.count(2), 5);
        check.due("mount", x.mount(1, 0), 3);
        check.due("links from and to it go", x.count(2), 2);
        check.due("agains of it go", x.count(3), 1);
        check.due("balls of it go", x.count(0), 2);
        check.due("its hand goes", x.night(1, 0), Check.NONE);
        check.due("another hand stays", x.night(0, 0), 1);
        x.bring(0, 0, 9);
        x.lay(0, 2, 0, 0);
        x.lay(0, 1, 0, 0);
        x.light(0, 2, 7);
        check.due("link 0 2 2 stays", x.night(2, 0), 7);
        check.due("link 1 is gone", x.night(1, 0), Check.NONE);
        check.due("ball 0 is that of clock 0", x.drops(0), 17);
        check.due("ball 1 is that of clock 2", x.drops(1), Check.NONE);
        check.due("there is no ball 2", x.drops(2), Check.UNKNOWN);
        check.due("the next ball", x.hang(1, 0), 2);
        x.calm();
        x.light(2, 0, 3);
        x.lay(2, 0, 0, 0);
        x.again(0, 0, 30);
        check.due("clock 0 is not lit", x.night(0, 0), Check.NONE);
    }

    private static void mountKeepsOthers() {
        SmellHours x = new SmellHours();
        for (int c = 0; c < 4; c++) {
            Check.lineClock(x, c, 3, 0);
        }
        x.sweep(1, 0);
        x.link(1, 0, 2);
        x.link(2, 1, 1);
        x.link(0, 2, 3);
        x.link(1, 1, 0);
        x.link(0, 1, 2);
        x.again(1, 2, 7);
        x.again(1, 2, 50);
        x.again(0, 0, 60);
        x.again(1, 1, 70);
        x.again(3, 1, 80);
        x.light(1, 1, 4);
        x.light(0, 1, 100);
        check.due("clock 1 is lit", x.night(1, 0), 4);
        check.due("links to go on", x.night(3, 0), 110);
        x.mount(1, 5);
        check.due("clock 1 is not lit", x.night(1, 0), Check.NONE);
        check.due("nor out", x.night(1, 1), Check.NONE);
        check.due("nor lit anywhere", x.night(1, 3), Check.NONE);
        check.due("two links", x.count(2), 2);
        check.due("two agains", x.count(3), 2);
        check.due("link 0 2 3", x.night(3, 0), 110);
        check.due("link 0 1 2", x.night(2, 0), 100);
        x.calm();
        againsStay();
    }

    private static void againsStay() {
        SmellHours x = new SmellHours();
        Check.line(x, 0, 4);
        x.mount(0, 0);
        x.mount(1, 0);
        x.bring(0, 0, 9);
        x.lay(0, 0, 0, 0);
        x.lay(0, 2, 0, 0);
        x.again(1, 1, 5);
        x.again(0, 2, 40);
        x.again(1, 3, 50);
        x.light(0, 0, 0);
        x.mount(1, 0);
        check.due("one again", x.count(3), 1);
        check.due("that of clock 0", x.burns(0, 2, 0), 40);
    }

    private static void mountKeepsItsPath() {
        SmellHours x = new SmellHours();
        Check.snake(x, 0, 2, 2);
        x.mount(0, 0);
        x.board(0, 4, 1);
        x.bring(0, 0, 4);
        for (int i = 0; i < 4; i++) {
            check.due("lay " + i, x.lay(0, i, 0, 0), 3 - i);
        }
        x.light(0, 0, 0);
        check.due("cell 3 is beside cell 0 still", x.burns(0, 3, 0), 10);
        check.due("cell 2", x.burns(0, 2, 0), 20);
    }

    private static void lays() {
        SmellHours x = new SmellHours();
        Check.line(x, 0, 3);
        x.mount(0, 0);
        x.bring(2, 4, 2);
        check.due("lay", x.lay(0, 2, 4, 2), 1);
        check.due("lay where a grain is", x.lay(0, 2, 4, 2), Check.NOT);
        check.due("it did not go", x.jar(2, 4), 1);
        check.due("the last one", x.lay(0, 0, 4, 2), 0);
        check.due("none left", x.lay(0, 1, 4, 2), Check.NOT);
        check.due("still bare", x.grain(0, 1), Check.NONE);
        check.due("none of it in that jar", x.lay(0, 1, 4, 0), Check.NOT);
        check.due("lay clock 4", x.lay(4, 0, 4, 2), Check.UNKNOWN);
        check.due("lay clock -1", x.lay(-1, 0, 4, 2), Check.UNKNOWN);
        check.due("lay cell 3", x.lay(0, 3, 4, 2), Check.UNKNOWN);
        check.due("lay cell -1", x.lay(0, -1, 4, 2), Check.UNKNOWN);
        check.due("lay powder 8", x.lay(0, 0, 8, 2), Check.UNKNOWN);
        check.due("lay powder -1", x.lay(0, 1, -1, 2), Check.UNKNOWN);
        check.due("lay jar 4", x.lay(0, 0, 4, 4), Check.UNKNOWN);
        check.due("lay jar -1", x.lay(0, 1, 4, -1), Check.UNKNOWN);
        check.due("lay in a clock without cells", x.lay(1, 0, 4, 2), Check.UNKNOWN);
        for (int wild : Check.WILD) {
            check.due("lay wild c", x.lay(wild, 1, 4, 2), Check.UNKNOWN);
            check.due("lay wild i", x.lay(0, wild, 4, 2), Check.UNKNOWN);
            check.due("lay wild powder", x.lay(0, 1, wild, 2), Check.UNKNOWN);
            check.due("lay wild jar", x.lay(0, 1, 4, wild), Check.UNKNOWN);
        }
    }

    private static void grains() {
        SmellHours x = new SmellHours();
        Check.lineClock(x, 1, 2, 7);
        check.due("grain", x.grain(1, 1), 7);
        check.due("grain cell 2", x.grain(1, 2), Check.UNKNOWN);
        check.due("grain cell -1", x.grain(1, -1), Check.UNKNOWN);
        check.due("grain clock 0", x.grain(0, 0), Check.UNKNOWN);
        check.due("grain clock 4", x.grain(4, 0), Check.UNKNOWN);
        check.due("grain clock -1", x.grain(-1, 0), Check.UNKNOWN);
        x.light(1, 1, 0);
        check.due("lit, it is there till dawn", x.grain(1, 1), 7);
        x.dawn();
        check.due("bare at dawn", x.grain(1, 1), Check.NONE);
        for (int wild : Check.WILD) {
            check.due("grain wild c", x.grain(wild, 0), Check.UNKNOWN);
            check.due("grain wild i", x.grain(1, wild), Check.UNKNOWN);
        }
    }

    private static void sweeps() {
        SmellHours x = new SmellHours();
        Check.line(x, 0, 5);
        x.mount(0, 0);
        x.bring(0, 1, 5);
        x.bring(0, 2, 5);
        x.lay(0, 0, 1, 0);
        x.lay(0, 2, 2, 0);
        x.lay(0, 4, 1, 0);
        check.due("sweep clock 4", x.sweep(4, 0), Check.UNKNOWN);
        check.due("sweep clock -1", x.sweep(-1, 0), Check.UNKNOWN);
        check.due("sweep jar 4", x.sweep(0, 4), Check.UNKNOWN);
        check.due("sweep jar -1", x.sweep(0, -1), Check.UNKNOWN);
        check.due("the grain stays", x.grain(0, 4), 1);
        check.due("sweep", x.sweep(0, 3), 3);
        check.due("two of 1", x.jar(3, 1), 2);
        check.due("one of 2", x.jar(3, 2), 1);
        check.due("bare", x.grain(0, 4), Check.NONE);
        check.due("sweep again", x.sweep(0, 3), 0);
        check.due("sweep a clock without cells", x.sweep(1, 3), 0);
        x.light(0, 0, 5);
        x.lay(0, 0, 1, 0);
        x.sweep(0, 0);
        check.due("its hand stays", x.night(0, 0), 5);
        check.due("nothing burns", x.night(0, 2), 0);
        for (int wild : Check.WILD) {
            check.due("sweep wild c", x.sweep(wild, 0), Check.UNKNOWN);
            check.due("sweep wild jar", x.sweep(0, wild), Check.UNKNOWN);
        }
    }

    private static void sweepsFull() {
        SmellHours x = new SmellHours();
        Check.lineClock(x, 0, 3, 6);
        x.sweep(0, 0);
        x.bring(0, 1, 1);
        x.lay(0, 0, 1, 0);
        x.lay(0, 1, 6, 0);
        x.lay(0, 2, 6, 0);
        for (int k = 0; k < 10; k++) {
            x.bring(2, 6, 99);
        }
        x.bring(2, 6, 8);
        check.due("998 and 2", x.sweep(0, 2), Check.FULL);
        check.due("refused, the jar stays", x.jar(2, 6), 998);
        check.due("refused, nothing of another powder came", x.jar(2, 1), 0);
        check.due("refused, the grains stay", x.grain(0, 0), 1);
        x.pour(2, 3, 6, 1);
        check.due("997 and 2", x.sweep(0, 2), 3);
        check.due("999 then", x.jar(2, 6), 999);
        sweepsFullOfEach();
    }

    private static void sweepsFullOfEach() {
        for (int p = 0; p < 8; p++) {
            SmellHours x = new SmellHours();
            Check.lineClock(x, 0, 1, p);
            for (int k = 0; k < 10; k++) {
                x.bring(1, p, 99);
            }
            x.bring(1, p, 9);
            check.due("999 and 1 of " + p, x.sweep(0, 1), Check.FULL);
            check.due("the grain stays", x.grain(0, 0), p);
            check.due("another jar", x.sweep(0, 2), 1);
        }
    }

    /** All 36 cells, where each row ends at its last index. */
    private static void fullBoard() {
        SmellHours x = new SmellHours();
        Check.snake(x, 0, 6, 6);
        x.mount(0, 0);
        x.bring(0, 0, 99);
        x.rate(0, 1);
        check.due("fill 36", x.fill(0, 0, 1), 36);
        check.due("weighed 36", x.weighed(0, 2), 36);
        x.light(0, 0, 0);
        check.due("36 burn", x.night(0, 2), 36);
        check.due("the last one jumps to", x.burns(0, 35, 0), 5);
        check.due("the far corner", x.burns(0, 30, 0), 10);
        check.due("no spills", x.spills(0, 0, 1), 0);
        x.row(0, 1);
        check.due("spills of all", x.spills(0, 0, 1), 36);
        check.due("scent", x.scent(0, 10), 1);
        check.due("out", x.scent(0, 11), 0);
        check.due("gone along all", x.gone(0, 35, 100, 0, 0, 0, 0), 36);
        check.due("dawn of 36", x.dawn(), 36);
        check.due("ashes", x.weighed(0, 3), 36);
    }

    private static void rows() {
        SmellHours x = new SmellHours();
        check.due("row 0", x.row(0, 7), 0);
        check.due("row 0 again", x.row(0, 3), 7);
        check.due("row 11", x.row(11, 7), 0);
        check.due("row 12", x.row(12, 0), Check.OUTSIDE);
        check.due("row -1", x.row(-1, 0), Check.OUTSIDE);
        check.due("row powder 8", x.row(12, 8), Check.UNKNOWN);
        check.due("row powder -1", x.row(0, -1), Check.UNKNOWN);
        for (int wild : Check.WILD) {
            check.due("row wild k", x.row(wild, 0), Check.OUTSIDE);
            check.due("row wild powder", x.row(0, wild), Check.UNKNOWN);
        }
        check.due("refused, it stays", x.row(0, 0), 3);
    }

    /** A clock with a line of n cells, a row of powders 1, 2, 3 .. and many grains in jar 0. */
    private static SmellHours scented(int n, int powders) {
        SmellHours x = new SmellHours();
        Check.line(x, 0, n);
        x.mount(0, 0);
        for (int k = 0; k < powders; k++) {
            x.row(k, k + 1);
            x.bring(0, k + 1, 50);
        }
        return x;
    }

    private static void cells(String what, SmellHours x, int... powders) {
        for (int i = 0; i < powders.length; i++) {
            check.due(what + " cell " + i, x.grain(0, i), powders[i]);
        }
    }

    private static void fills() {
        SmellHours x = scented(6, 3);
        x.rate(1, 25);
        x.rate(2, 40);
        x.rate(3, 60);
        // Begins at 300, 325, 350 in hour 5; 375, 415 in hour 6; 455 in hour 7.
        check.due("fill 5 3", x.fill(0, 5, 3), 6);
        cells("fill 5 3", x, 1, 1, 1, 2, 2, 3);
        check.due("three of 1 are gone", x.jar(0, 1), 47);
        x.sweep(0, 0);
        check.due("fill 5 2", x.fill(0, 5, 2), 5);
        cells("fill 5 2", x, 1, 1, 1, 2, 2, Check.NONE);
        x.sweep(0, 0);
        x.rate(1, 60);
        x.rate(2, 60);
        check.due("an hour each", x.fill(0, 0, 2), 2);
        cells("an hour each", x, 1, 2, Check.NONE);
        x.light(0, 0, 0);
        check.due("its hours are told by their scents", x.scent(0, 59), 2);
        check.due("and the next one", x.scent(0, 60), 4);
        check.due("fill a clock without cells", x.fill(1, 0, 2), 0);
    }

    private static void fillsByDamp() {
        SmellHours x = scented(6, 4);
        x.rate(1, 30);
        x.rate(2, 30);
        x.rate(3, 30);
        x.damp(0, 0, 50);
        // Begins at 0, 45; 90 in hour 1; 120, 150 in hour 2; 180 is in hour 3.
        check.due("fill in the damp", x.fill(0, 0, 3), 5);
        cells("fill in the damp", x, 1, 1, 2, 3, 3, Check.NONE);
        x.sweep(0, 0);
        x.damp(0, 99, 50);
        x.rate(2, 60);
        x.rate(4, 20);
        // Begins at 0, 45; 90 in hour 1, burnt at 180, in hour 3; 210 there, too.
        check.due("an hour in which none begins", x.fill(0, 0, 4), 5);
        cells("an hour in which none begins", x, 1, 1, 2, 4, 4, Check.NONE);
    }

    private static void fillsFromJars() {
        SmellHours x = new SmellHours();
        Check.line(x, 0, 6);
        x.mount(0, 0);
        x.bring(1, 0, 2);
        x.bring(3, 0, 3);
        check.due("five for six", x.fill(0, 0, 1), Check.NOT);
        check.due("nothing is laid", x.grain(0, 0), Check.NONE);
        check.due("nothing is taken", x.jar(1, 0), 2);
        x.bring(2, 0, 3);
        check.due("eight for six", x.fill(0, 0, 1), 6);
        check.due("jar 1 first", x.jar(1, 0), 0);
        check.due("then jar 2", x.jar(2, 0), 0);
        check.due("then jar 3", x.jar(3, 0), 2);
        check.due("it has grains", x.fill(0, 0, 1), Check.NOT);
        x.sweep(0, 0);
        x.lay(0, 5, 0, 0);
        check.due("it has one grain", x.fill(0, 0, 1), Check.NOT);
    }

    private static void fillsRefused() {
        SmellHours x = scented(2, 3);
        for (int c = 0; c < 5; c += 4) {
            int outside = c == 0 ? Check.OUTSIDE : Check.UNKNOWN;
            check.due("n 0", x.fill(c, 0, 0), outside);
            check.due("n 13", x.fill(c, 0, 13), outside);
            check.due("s -1", x.fill(c, -1, 1), outside);
            check.due("s 99 n 1", x.fill(c, 99, 1), outside);
            check.due("s 88 n 12", x.fill(c, 88, 12), outside);
            check.due("spills n 0", x.spills(c, 0, 0), outside);
            check.due("spills n 13", x.spills(c, 0, 13), outside);
            check.due("spills s -1", x.spills(c, -1, 1), outside);
            check.due("spills s 99 n 1", x.spills(c, 99, 1), outside);
            check.due("spills s 88 n 12", x.spills(c, 88, 12), outside);
        }
        check.due("clock -1", x.fill(-1, 0, 1), Check.UNKNOWN);
        check.due("spills clock -1", x.spills(-1, 0, 1), Check.UNKNOWN);
        for (int wild : Check.WILD) {
            check.due("fill wild c", x.fill(wild, 0, 1), Check.UNKNOWN);
            check.due("fill wild s", x.fill(0, wild, 1), Check.OUTSIDE);
            check.due("fill wild n", x.fill(0, 0, wild), Check.OUTSIDE);
            check.due("spills wild c", x.spills(wild, 0, 1), Check.UNKNOWN);
            check.due("spills wild s", x.spills(0, wild, 1), Check.OUTSIDE);
            check.due("spills wild n", x.spills(0, 0, wild), Check.OUTSIDE);
        }
        check.due("the last hour that can be", x.fill(0, 98, 1), 2);
        x.sweep(0, 0);
        check.due("the last twelve", x.fill(0, 87, 12), 2);
        check.due("spills of the last twelve", x.spills(0, 87, 12), 0);
    }

    private static void spills() {
        SmellHours x = scented(4, 3);
        x.rate(1, 30);
        x.rate(2, 30);
        x.rate(3, 30);
        x.fill(0, 1, 2);
        cells("two hours", x, 1, 1, 2, 2);
        check.due("not lit", x.spills(0, 1, 2), 0);
        x.light(0, 0, 60);
        check.due("as filled", x.spills(0, 1, 2), 0);
        x.light(0, 0, 50);
        // Cells at 50, 80, 110, 140: powder 2 burns in hour 1 from 110 to 120.
        check.due("lit ten ticks early", x.spills(0, 1, 2), 10);
        check.due("of hour 1 alone", x.spills(0, 1, 1), 10);
        check.due("hour 2 held against powder 1", x.spills(0, 2, 1), 50);
        check.due("hours 0 to 2", x.spills(0, 0, 3), 100);
        x.row(0, 2);
        check.due("by the row as it is now", x.spills(0, 1, 1), 50);
        check.due("none in later hours", x.spills(0, 9, 12), 0);
    }

    private static void spillsOverlapping() {
        SmellHours x = new SmellHours();
        Check.snake(x, 0, 2, 2);
        x.mount(0, 0);
        x.bring(0, 5, 4);
        for (int i = 0; i < 4; i++) {
            x.lay(0, i, 5, 0);
        }
        x.light(0, 0, 0);
        check.due("cells that burn at once count each", x.spills(0, 0, 1), 40);
        x.light(0, 0, 45);
        // 45 to 55, twice 55 to 60 of 65, none of 65 to 75.
        check.due("those of the hour alone", x.spills(0, 0, 1), 20);
    }
}
