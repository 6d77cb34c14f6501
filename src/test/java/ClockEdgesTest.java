/** Promises 17 to 23, sentence by sentence: each stands word for word, with a test of its own that goes to its edges. */
public final class ClockEdgesTest {
    private static final Edges edges = new Edges();

    public static void main(String[] args) {
        clocks();
        mounts();
        lays();
        sweeps();
        rows();
        fills();
        fillsFromJars();
        spills();
        edges.end(17, 23);
    }

    private static void due(String call, long got, long want) {
        edges.due(call, got, want);
    }

    private static void clocks() {
        edges.sentence(17, "CLOCKS 0 to 3", ClockEdgesTest::clocksThatAre);
        edges.sentence(17, "have a PATH as it was in a SEAL when it was MOUNTED", x -> {
            Check.snake(x, 0, 2, 2);
            x.mount(0, 0);
            x.wipe(0);
            due("wiped, it has its cells", x.grain(0, 3), Edges.NONE);
            x.bar(0, 1, true);
            x.board(0, 6, 1);
            x.go(0, 5);
            due("no more of them", x.grain(0, 4), Edges.UNKNOWN);
            x.bring(0, 0, 4);
            for (int i = 0; i < 4; i++) {
                x.lay(0, i, 0, 0);
            }
            x.light(0, 0, 0);
            due("cell 3 is beside cell 0 as ever", x.burns(0, 3, 0), 10);
            due("all burn", x.night(0, 2), 4);
        });
        edges.sentence(17, "its SQUARES are the CELLS of the CLOCK, numbered along it.", x -> {
            x.board(0, 3, 2);
            int[] path = {5, 2, 1, 0};
            for (int square : path) {
                x.go(0, square);
            }
            x.mount(0, 0);
            x.bring(0, 0, 4);
            for (int i = 0; i < 4; i++) {
                x.lay(0, i, 0, 0);
            }
            x.light(0, 0, 0);
            for (int i = 0; i < 4; i++) {
                due("cell " + i, x.burns(0, i, 0), 10 * i);
            }
            due("no cell 4", x.burns(0, 4, 0), Edges.UNKNOWN);
        });
        edges.sentence(17, "A CLOCK is MOUNTED with the PATH of a SEAL, all BARE: how many CELLS.", ClockEdgesTest::mountsAnew);
    }

    private static void clocksThatAre(SmellHours x) {
        Check.line(x, 0, 2);
        int[] are = {0, 3};
        for (int c : are) {
            due("mount", x.mount(c, 0), 2);
            x.bring(0, 0, 2);
            due("lay", x.lay(c, 1, 0, 0), 1);
            due("grain", x.grain(c, 1), 0);
            due("light", x.light(c, 1, 7), 1);
            due("night", x.night(c, 0), 7);
            due("burns", x.burns(c, 1, 1), 17);
            due("scent", x.scent(c, 7), 1);
            due("spills", x.spills(c, 0, 1), 0);
            due("cost", x.cost(c), 0);
            due("slow", x.slow(c, 0), 0);
            due("sweep", x.sweep(c, 0), 1);
            due("fill", x.fill(c, 0, 1), 2);
            due("gone", x.gone(c, 1, 20, 0, 0, 0, 0), 20);
            due("sweep what was filled", x.sweep(c, 1), 2);
        }
        due("hang", x.hang(3, 1), 0);
        due("again", x.again(3, 1, 0), 1);
        due("link", x.link(0, 1, 3), 1);
        due("link back", x.link(3, 1, 0), 2);
        int[] none = {-1, 4, Integer.MIN_VALUE, Integer.MAX_VALUE};
        for (int c : none) {
            noClock(x, c);
        }
    }

    private static void noClock(SmellHours x, int c) {
        due("mount " + c, x.mount(c, 0), Edges.UNKNOWN);
        due("lay " + c, x.lay(c, 0, 0, 0), Edges.UNKNOWN);
        due("grain " + c, x.grain(c, 0), Edges.UNKNOWN);
        due("sweep " + c, x.sweep(c, 0), Edges.UNKNOWN);
        due("fill " + c, x.fill(c, 0, 1), Edges.UNKNOWN);
        due("spills " + c, x.spills(c, 0, 1), Edges.UNKNOWN);
        due("light " + c, x.light(c, 0, 0), Edges.UNKNOWN);
        due("link from " + c, x.link(c, 0, 3), Edges.UNKNOWN);
        due("link to " + c, x.link(3, 0, c), Edges.UNKNOWN);
        due("again " + c, x.again(c, 0, 0), Edges.UNKNOWN);
        due("night " + c, x.night(c, 0), Edges.UNKNOWN);
        due("burns " + c, x.burns(c, 0, 0), Edges.UNKNOWN);
        due("scent " + c, x.scent(c, 0), Edges.UNKNOWN);
        due("hang " + c, x.hang(c, 0), Edges.UNKNOWN);
        due("cost " + c, x.cost(c), Edges.UNKNOWN);
        due("slow " + c, x.slow(c, 0), Edges.UNKNOWN);
        due("gone " + c, x.gone(c, 0, 0, 0, 0, 0, 0), Edges.UNKNOWN);
    }

    /** A longer path in a shorter one's place, and back; grains of what was ahead do not come again. */
    private static void mountsAnew(SmellHours x) {
        x.board(0, 1, 1);
        x.go(0, 0);
        Check.snake(x, 1, 6, 6);
        due("one cell", x.mount(2, 0), 1);
        due("36 cells", x.mount(2, 1), 36);
        x.bring(0, 0, 36);
        x.fill(2, 0, 12);
        due("cell 35 has a grain", x.grain(2, 35), 0);
        due("swept", x.sweep(2, 0), 36);
        due("one cell again", x.mount(2, 0), 1);
        due("no cell 1", x.grain(2, 1), Edges.UNKNOWN);
        due("36 cells again", x.mount(2, 1), 36);
        for (int i = 0; i < 36; i++) {
            due("bare", x.grain(2, i), Edges.NONE);
        }
        due("one clock is mounted", x.count(4), 1);
    }

    private static void mounts() {
        edges.sentence(17, "UNKNOWN; NOT: the CLOCK has grains, or the PATH no SQUARES.", x -> {
            due("no clock, no squares", x.mount(4, 1), Edges.UNKNOWN);
            due("no seal", x.mount(0, 6), Edges.UNKNOWN);
            Check.line(x, 0, 2);
            due("no squares", x.mount(0, 1), Edges.NOT);
            due("none is mounted", x.count(4), 0);
            due("with a path", x.mount(0, 0), 2);
            x.bring(0, 0, 1);
            x.lay(0, 1, 0, 0);
            due("one grain, in the last cell", x.mount(0, 0), Edges.NOT);
            x.sweep(0, 0);
            due("swept", x.mount(0, 0), 2);
            x.lay(0, 0, 0, 0);
            x.light(0, 0, 0);
            due("lit, it has its grain till dawn", x.mount(0, 0), Edges.NOT);
            x.dawn();
            due("burnt", x.mount(0, 0), 2);
            x.wipe(0);
            due("no squares any more", x.mount(0, 0), Edges.NOT);
            due("it has those of its own still", x.grain(0, 1), Edges.NONE);
        });
        edges.sentence(17, "Its HAND", x -> {
            Check.line(x, 0, 2);
            x.mount(0, 0);
            x.mount(1, 0);
            x.light(0, 1, 5);
            x.light(1, 1, 6);
            due("it is lit", x.night(0, 0), 5);
            x.mount(0, 0);
            due("its hand is gone", x.night(0, 0), Edges.NONE);
            due("another one's is not", x.night(1, 0), 6);
            due("one is lit", x.count(5), 1);
        });
        edges.sentence(17, "BALLS", x -> {
            Check.line(x, 0, 3);
            x.mount(0, 0);
            x.mount(1, 0);
            x.hang(0, 0);
            x.hang(0, 2);
            x.mount(1, 0);
            due("of another one", x.count(0), 2);
            x.mount(0, 0);
            due("its own", x.count(0), 0);
            due("ball 0", x.drops(0), Edges.UNKNOWN);
            due("the next ball", x.hang(0, 1), 0);
        });
        edges.sentence(17, "What has a number has it from 0 on.", ClockEdgesTest::ballsLeft);
        edges.sentence(17, "AGAINS", x -> {
            Check.line(x, 0, 3);
            x.mount(0, 0);
            x.mount(1, 0);
            for (int k = 0; k < 12; k++) {
                x.again(k % 3 == 0 ? 1 : 0, 0, 12 - k);
            }
            x.mount(0, 0);
            due("those of another one stay", x.count(3), 4);
            x.mount(1, 0);
            due("none is left", x.count(3), 0);
            due("there is room", x.again(0, 0, 0), 1);
        });
        edges.sentence(17, "HAND, BALLS, AGAINS, LINKS from and to it go.", ClockEdgesTest::whatIsLeft);
        edges.sentence(17, "LINKS from and to it go.", x -> {
            Check.line(x, 0, 3);
            for (int c = 0; c < 4; c++) {
                x.mount(c, 0);
            }
            x.link(0, 0, 1);
            x.link(1, 0, 2);
            x.link(2, 0, 3);
            x.link(3, 0, 1);
            x.mount(1, 0);
            due("one is left", x.count(2), 1);
            x.bring(0, 0, 1);
            x.lay(2, 0, 0, 0);
            x.light(2, 0, 9);
            due("that from 2 to 3", x.night(3, 0), 9);
            due("refused", x.mount(2, 0), Edges.NOT);
            due("it stays", x.count(2), 1);
            x.mount(3, 0);
            due("to it", x.count(2), 0);
        });
    }

    /** Balls of another clock that hang behind its own have the numbers from 0 on then. */
    private static void ballsLeft(SmellHours x) {
        Check.lineClock(x, 0, 3, 0);
        Check.line(x, 0, 3);
        x.mount(1, 0);
        x.hang(1, 0);
        x.hang(0, 2);
        x.hang(1, 1);
        x.hang(0, 1);
        x.light(0, 0, 100);
        due("ball 1", x.drops(1), 120);
        x.mount(1, 0);
        due("ball 0", x.drops(0), 120);
        due("ball 1 then", x.drops(1), 110);
        due("ball 2", x.drops(2), Edges.UNKNOWN);
        due("the next ball", x.hang(0, 0), 2);
    }

    /** What is of other clocks stays as it was told, whether it stood ahead of what goes, between or behind. */
    private static void whatIsLeft(SmellHours x) {
        Check.lineClock(x, 0, 6, 0);
        Check.lineClock(x, 2, 6, 0);
        Check.lineClock(x, 3, 6, 0);
        Check.line(x, 0, 2);
        x.mount(1, 0);
        x.link(0, 2, 2);
        x.link(0, 0, 1);
        x.link(1, 0, 2);
        x.link(2, 4, 3);
        x.light(0, 0, 0);
        x.again(1, 0, 1);
        x.again(1, 1, 300);
        due("clock 1 is lit, and is bare", x.night(1, 0), 0);
        x.mount(1, 0);
        due("clock 1 is not lit", x.night(1, 0), Edges.NONE);
        due("the link ahead", x.night(2, 0), 20);
        due("the link behind", x.night(3, 0), 60);
        due("two links", x.count(2), 2);
        x.sweep(0, 1);
        x.lay(0, 0, 0, 1);
        x.lay(0, 5, 0, 1);
        x.again(1, 1, 10);
        x.again(0, 5, 200);
        x.mount(1, 0);
        due("the again behind", x.burns(0, 5, 0), 200);
        due("one again", x.count(3), 1);
    }

    private static void lays() {
        edges.sentence(18, "A CELL gets a grain from a JAR: grains that are left there of it.", x -> {
            Check.snake(x, 0, 6, 6);
            x.mount(0, 0);
            x.bring(1, 3, 36);
            for (int i = 35; i >= 0; i--) {
                due("cell " + i, x.lay(0, i, 3, 1), i);
            }
            due("in cells", x.weighed(3, 2), 36);
        });
        edges.sentence(18, "UNKNOWN; NOT: the CELL is not BARE, or the JAR has none.", x -> {
            Check.line(x, 0, 3);
            due("a clock without cells", x.lay(0, 0, 3, 1), Edges.UNKNOWN);
            x.mount(0, 0);
            due("no cell", x.lay(0, 3, 3, 1), Edges.UNKNOWN);
            due("no powder", x.lay(0, 0, 8, 1), Edges.UNKNOWN);
            due("no jar", x.lay(0, 0, 3, 4), Edges.UNKNOWN);
            due("no grains", x.lay(0, 0, 3, 1), Edges.NOT);
            x.bring(1, 3, 2);
            x.bring(1, 4, 2);
            x.bring(2, 5, 2);
            due("the last but one", x.lay(0, 0, 3, 1), 1);
            due("another powder on it", x.lay(0, 0, 4, 1), Edges.NOT);
            due("the same on it", x.lay(0, 0, 3, 1), Edges.NOT);
            due("one of another jar", x.lay(0, 1, 5, 1), Edges.NOT);
            due("the last one", x.lay(0, 2, 3, 1), 0);
            due("one more", x.lay(0, 1, 3, 1), Edges.NOT);
            due("cell 1 is bare", x.grain(0, 1), Edges.NONE);
            due("none of 4 is gone", x.jar(1, 4), 2);
            x.light(0, 0, 0);
            due("it burns this night, and is not bare yet", x.lay(0, 0, 4, 1), Edges.NOT);
            x.dawn();
            due("it is bare", x.lay(0, 0, 4, 1), 1);
        });
        edges.sentence(18, "A CELL has one grain of a POWDER, or is BARE.", x -> {
            Check.line(x, 0, 2);
            x.mount(0, 0);
            x.bring(0, 0, 9);
            x.lay(0, 1, 0, 0);
            x.lay(0, 1, 0, 0);
            due("one in cells", x.weighed(0, 2), 1);
            due("powder 0 is not bare", x.grain(0, 1), 0);
            due("bare", x.grain(0, 0), Edges.NONE);
        });
        edges.sentence(19, "The POWDER of a CELL; NONE: it is BARE. UNKNOWN.", x -> {
            Check.lineClock(x, 1, 6, 7);
            due("cell -1", x.grain(1, -1), Edges.UNKNOWN);
            due("cell 0", x.grain(1, 0), 7);
            due("cell 5", x.grain(1, 5), 7);
            due("cell 6", x.grain(1, 6), Edges.UNKNOWN);
            due("a clock without cells", x.grain(0, 0), Edges.UNKNOWN);
            for (int wild : Edges.WILD) {
                due("cell " + wild, x.grain(1, wild), Edges.UNKNOWN);
                due("lay into " + wild, x.lay(1, wild, 7, 0), Edges.UNKNOWN);
            }
            x.sweep(1, 0);
            due("swept", x.grain(1, 5), Edges.NONE);
            due("lay into 6", x.lay(1, 6, 7, 0), Edges.UNKNOWN);
            due("lay into -1", x.lay(1, -1, 7, 0), Edges.UNKNOWN);
        });
    }

    private static void sweeps() {
        edges.sentence(20, "All grains of a CLOCK are swept into a JAR: how many.", x -> {
            due("a clock without cells", x.sweep(0, 0), 0);
            Check.snake(x, 0, 6, 6);
            x.mount(0, 0);
            due("a bare clock", x.sweep(0, 0), 0);
            for (int p = 0; p < 8; p++) {
                x.bring(0, p, 9);
            }
            for (int i = 0; i < 36; i++) {
                x.lay(0, i, i % 8, 0);
            }
            due("36", x.sweep(0, 3), 36);
            for (int p = 0; p < 8; p++) {
                due("of powder " + p, x.jar(3, p), p < 4 ? 5 : 4);
            }
            due("none is left", x.sweep(0, 3), 0);
            due("all bare", x.weighed(Edges.NONE, 2), 0);
        });
        edges.sentence(20, "FULL: it would have more than 999 of some POWDER.", x -> {
            Check.lineClock(x, 0, 5, 7);
            x.bring(3, 0, 1);
            x.sweep(0, 0);
            x.lay(0, 0, 0, 3);
            for (int i = 1; i < 5; i++) {
                x.lay(0, i, 7, 0);
            }
            for (int k = 0; k < 10; k++) {
                x.bring(1, 7, 99);
            }
            x.bring(1, 7, 6);
            due("996 and 4", x.sweep(0, 1), Edges.FULL);
            due("the grain of 0 stays", x.grain(0, 0), 0);
            due("none of 0 came", x.jar(1, 0), 0);
            due("996 still", x.jar(1, 7), 996);
            x.pour(1, 2, 7, 1);
            due("995 and 4", x.sweep(0, 1), 5);
            due("999", x.jar(1, 7), 999);
            due("a bare clock into a full jar", x.sweep(0, 1), 0);
        });
        edges.sentence(20, "UNKNOWN; FULL", x -> {
            Check.lineClock(x, 0, 1, 0);
            for (int wild : Edges.WILD) {
                due("clock " + wild, x.sweep(wild, 0), Edges.UNKNOWN);
                due("jar " + wild, x.sweep(0, wild), Edges.UNKNOWN);
            }
            due("jar -1", x.sweep(0, -1), Edges.UNKNOWN);
            due("jar 4", x.sweep(0, 4), Edges.UNKNOWN);
            due("jar 3", x.sweep(0, 3), 1);
        });
    }

    private static void rows() {
        edges.sentence(21, "SCENTED: THE ROW has a POWDER for each k of 0 to 11 (0 at first).", x -> {
            for (int k = 0; k < 12; k++) {
                due("at first", x.row(k, (k + 1) % 8), 0);
            }
            for (int k = 0; k < 12; k++) {
                due("then", x.row(k, 0), (k + 1) % 8);
            }
            due("k -1", x.row(-1, 0), Edges.OUTSIDE);
            due("k 12", x.row(12, 0), Edges.OUTSIDE);
            for (int wild : Edges.WILD) {
                due("k " + wild, x.row(wild, 0), Edges.OUTSIDE);
            }
        });
        edges.sentence(21, "POWDER k of THE ROW becomes another one: what it was. UNKNOWN (the POWDER), OUTSIDE (k).", x -> {
            due("both", x.row(12, 8), Edges.UNKNOWN);
            due("both, below", x.row(-1, -1), Edges.UNKNOWN);
            due("powder 8", x.row(0, 8), Edges.UNKNOWN);
            due("powder -1", x.row(0, -1), Edges.UNKNOWN);
            due("powder 7", x.row(0, 7), 0);
            due("7 it was", x.row(0, 3), 7);
            due("3 it was", x.row(0, 3), 3);
            due("3 it is", x.row(0, 0), 3);
            due("another one's", x.row(1, 0), 0);
        });
    }

    /** A line of six cells and grains 1, 2, 3 .. 7 in jar 0; THE ROW is 1, 2, 3 .. 7 and on with 0. */
    private static void scented(SmellHours x) {
        Check.line(x, 0, 6);
        x.mount(0, 0);
        for (int k = 0; k < 7; k++) {
            x.row(k, k + 1);
            x.bring(0, k + 1, 20);
        }
    }

    private static void cells(SmellHours x, int... powders) {
        for (int i = 0; i < powders.length; i++) {
            due("cell " + i, x.grain(0, i), powders[i]);
        }
    }

    private static void fills() {
        edges.sentence(22, "A CLOCK without grains is FILLED for HOUR s and n HOURS (1 .. 12)", x -> {
            scented(x);
            due("n 0", x.fill(0, 0, 0), Edges.OUTSIDE);
            due("n 13", x.fill(0, 0, 13), Edges.OUTSIDE);
            due("n 1", x.fill(0, 0, 1), 6);
            x.sweep(0, 0);
            due("n 12", x.fill(0, 0, 12), 6);
            for (int wild : Edges.WILD) {
                due("n " + wild, x.fill(0, 0, wild), Edges.OUTSIDE);
                due("s " + wild, x.fill(0, wild, 1), Edges.OUTSIDE);
            }
        });
        edges.sentence(22, "UNKNOWN, OUTSIDE (s 0 .. 99 less n, n)", x -> {
            scented(x);
            due("no clock", x.fill(4, 0, 1), Edges.UNKNOWN);
            due("no clock, no hours", x.fill(-1, 0, 0), Edges.UNKNOWN);
            for (int n = 1; n <= 12; n++) {
                due("s -1, n " + n, x.fill(0, -1, n), Edges.OUTSIDE);
                due("s 100 less n, n " + n, x.fill(0, 100 - n, n), Edges.OUTSIDE);
                due("s 99 less n, n " + n, x.fill(0, 99 - n, n), 6);
                x.sweep(0, 0);
                due("s 0, n " + n, x.fill(0, 0, n), 6);
                x.sweep(0, 0);
            }
        });
        edges.sentence(22, ": CELL by CELL along its PATH, the first one beginning at tick 60 s, each other one as the one ahead is burnt", x -> {
            scented(x);
            x.damp(7, 7, 50);
            x.rate(1, 20);
            x.rate(2, 40);
            x.rate(3, 60);
            // Hour 7: 420, 450; hour 8: 480, 520; hour 9: 560; 620 is in hour 10.
            due("fill", x.fill(0, 7, 3), 5);
            cells(x, 1, 1, 2, 2, 3, Edges.NONE);
            // Forth and back in two rows: fire would jump from cell 0 to cell 5, grains are laid along the path.
            Check.snake(x, 1, 3, 2);
            x.mount(1, 1);
            due("cells 0 to 2 in an hour of 20 ticks each", x.fill(1, 0, 1), 3);
            due("cell 2", x.grain(1, 2), 1);
            due("cell 5", x.grain(1, 5), Edges.NONE);
        });
        edges.sentence(22, "it gets POWDER k of THE ROW, if it begins in HOUR s and k, k below n", ClockEdgesTest::fillsAtTheEdge);
        edges.sentence(22, "till its CELLS or the HOURS are at an end.", x -> {
            scented(x);
            x.rate(1, 60);
            x.rate(2, 60);
            x.rate(3, 60);
            due("hours", x.fill(0, 0, 3), 3);
            cells(x, 1, 2, 3, Edges.NONE, Edges.NONE, Edges.NONE);
            x.sweep(0, 0);
            x.rate(3, 10);
            due("cells", x.fill(0, 0, 3), 6);
            cells(x, 1, 2, 3, 3, 3, 3);
            due("a clock without cells", x.fill(1, 0, 1), 0);
        });
        edges.sentence(22, "A CLOCK is FILLED: how many CELLS got a grain.", x -> {
            scented(x);
            x.light(0, 0, 0);
            due("lit, it is bare", x.night(0, 2), 0);
            due("fill", x.fill(0, 0, 1), 6);
            due("it burns then", x.night(0, 2), 6);
            x.sweep(0, 0);
            due("and no more", x.night(0, 2), 0);
        });
    }

    private static void fillsAtTheEdge(SmellHours x) {
        scented(x);
        x.rate(1, 60);
        // The second one begins just as hour s and 1 does.
        due("one hour", x.fill(0, 0, 1), 1);
        cells(x, 1, Edges.NONE);
        x.sweep(0, 0);
        due("two hours", x.fill(0, 0, 2), 6);
        cells(x, 1, 2, 2, 2, 2, 2);
        x.sweep(0, 0);
        x.rate(1, 59);
        due("a tick ahead of the hour", x.fill(0, 0, 1), 2);
        cells(x, 1, 1, Edges.NONE);
        x.sweep(0, 0);
        x.damp(0, 99, 50);
        x.rate(1, 60);
        x.rate(2, 60);
        x.rate(3, 20);
        // 0 in hour 0, 90 in hour 1, 180 and on in hour 3: none begins in hour 2.
        x.rate(4, 60);
        due("an hour in which none begins", x.fill(0, 0, 4), 3);
        cells(x, 1, 2, 4, Edges.NONE);
        x.sweep(0, 0);
        x.damp(0, 99, 0);
        twelveHours(x);
    }

    private static void twelveHours(SmellHours x) {
        Check.snake(x, 1, 6, 3);
        x.mount(1, 1);
        for (int p = 0; p < 8; p++) {
            x.rate(p, 60);
        }
        x.bring(0, 0, 9);
        x.row(11, 5);
        due("twelve hours, a cell each", x.fill(1, 87, 12), 12);
        int[] powders = {1, 2, 3, 4, 5, 6, 7, 0, 0, 0, 0, 5, Edges.NONE};
        for (int i = 0; i < powders.length; i++) {
            due("cell " + i + " of twelve", x.grain(1, i), powders[i]);
        }
    }

    private static void fillsFromJars() {
        edges.sentence(22, "Grains come from JARS (each from the least JAR that has one).", x -> {
            Check.line(x, 0, 6);
            x.mount(0, 0);
            x.rate(0, 30);
            x.row(1, 6);
            x.bring(3, 0, 3);
            x.bring(1, 0, 1);
            x.bring(2, 6, 9);
            x.bring(0, 6, 1);
            // 0, 30 with powder 0; 60 and on with powder 6.
            due("fill", x.fill(0, 0, 2), 6);
            due("1 of jar 1", x.jar(1, 0), 0);
            due("1 of jar 3", x.jar(3, 0), 2);
            due("1 of jar 0", x.jar(0, 6), 0);
            due("3 of jar 2", x.jar(2, 6), 6);
        });
        edges.sentence(22, "NOT: it has grains, or JARS have not enough.", x -> {
            Check.line(x, 0, 6);
            x.mount(0, 0);
            x.row(1, 7);
            x.rate(0, 20);
            x.bring(0, 0, 1);
            x.bring(3, 0, 1);
            x.bring(2, 7, 3);
            due("two for three", x.fill(0, 0, 2), Edges.NOT);
            x.bring(1, 0, 1);
            due("three for three", x.fill(0, 0, 2), 6);
            x.sweep(0, 3);
            x.pour(3, 0, 7, 1);
            x.lay(0, 5, 7, 0);
            due("it has one grain", x.fill(0, 0, 1), Edges.NOT);
            x.light(0, 5, 0);
            x.dawn();
            due("two of 7 for three", x.fill(0, 0, 2), Edges.NOT);
            due("none of 0 is taken", x.jar(3, 0), 3);
            due("none is laid", x.weighed(Edges.NONE, 2), 0);
            due("of hour 0 alone", x.fill(0, 0, 1), 3);
            due("the last one is laid", x.jar(3, 0), 0);
        });
    }

    private static void spills() {
        edges.sentence(23, "SPILLS. UNKNOWN, OUTSIDE (as fill()).", x -> {
            Check.lineClock(x, 0, 1, 0);
            for (int n = 1; n <= 12; n++) {
                due("s -1, n " + n, x.spills(0, -1, n), Edges.OUTSIDE);
                due("s 0, n " + n, x.spills(0, 0, n), 0);
                due("s 99 less n, n " + n, x.spills(0, 99 - n, n), 0);
                due("s 100 less n, n " + n, x.spills(0, 100 - n, n), Edges.OUTSIDE);
            }
            due("n 0", x.spills(0, 0, 0), Edges.OUTSIDE);
            due("n 13", x.spills(0, 0, 13), Edges.OUTSIDE);
            for (int wild : Edges.WILD) {
                due("n " + wild, x.spills(0, 0, wild), Edges.OUTSIDE);
                due("s " + wild, x.spills(0, wild, 1), Edges.OUTSIDE);
            }
            due("a clock without cells", x.spills(1, 0, 1), 0);
        });
        edges.sentence(23, "the ticks of these n HOURS in which it burns", x -> {
            Check.lineClock(x, 0, 1, 0);
            for (int k = 0; k < 12; k++) {
                x.row(k, 1);
            }
            // From a tick to ten ticks later; how many of them are in hour 5, in hours 5 and 6, in hour 6.
            int[][] rows = {{289, 0, 0, 0}, {290, 0, 0, 0}, {291, 1, 1, 0}, {299, 9, 9, 0}, {300, 10, 10, 0}, {350, 10, 10, 0},
                {351, 9, 10, 1}, {359, 1, 10, 9}, {360, 0, 10, 10}, {410, 0, 10, 10}, {411, 0, 9, 9}, {420, 0, 0, 0}};
            for (int[] row : rows) {
                x.light(0, 0, row[0]);
                due("lit at " + row[0] + ", hour 5", x.spills(0, 5, 1), row[1]);
                due("lit at " + row[0] + ", hours 5 and 6", x.spills(0, 5, 2), row[2]);
                due("lit at " + row[0] + ", hour 6", x.spills(0, 6, 1), row[3]);
            }
            x.light(0, 0, 5935);
            due("of the last hour that may be", x.spills(0, 98, 1), 5);
            x.rate(0, 60);
            x.damp(0, 99, 50);
            x.light(0, 0, 50);
            due("over an hour's both ends", x.spills(0, 1, 1), 60);
        });
        edges.sentence(23, "and its POWDER is not that of THE ROW for that HOUR.", x -> {
            Check.lineClock(x, 0, 1, 3);
            x.light(0, 0, 55);
            due("of neither hour", x.spills(0, 0, 2), 10);
            x.row(0, 3);
            due("of hour 0", x.spills(0, 0, 2), 5);
            x.row(1, 3);
            due("of both", x.spills(0, 0, 2), 0);
            due("hour 1 is the first one", x.spills(0, 1, 1), 0);
            x.row(0, 2);
            due("hour 1 is the first one, of another powder", x.spills(0, 1, 1), 5);
        });
        edges.sentence(23, "SPILLS of a CLOCK for s and n: over all CELLS that burn in THE NIGHT", x -> {
            Check.lineClock(x, 0, 6, 1);
            Check.lineClock(x, 1, 6, 1);
            x.light(1, 0, 0);
            due("not lit", x.spills(0, 0, 12), 0);
            x.light(0, 2, 0);
            due("all six", x.spills(0, 0, 12), 60);
            x.sweep(0, 0);
            x.lay(0, 0, 1, 0);
            x.lay(0, 5, 1, 0);
            x.light(0, 5, 0);
            due("that which burns alone", x.spills(0, 0, 12), 10);
            x.dawn();
            due("none behind dawn", x.spills(0, 0, 12), 0);
            Check.snake(x, 1, 6, 6);
            x.mount(2, 1);
            x.bring(0, 1, 36);
            x.row(0, 1);
            x.rate(1, 1);
            x.fill(2, 0, 1);
            x.row(0, 0);
            x.light(2, 0, 0);
            due("all 36", x.spills(2, 0, 12), 36);
        });
    }
}
