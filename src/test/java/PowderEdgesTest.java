/** Promises 11 to 16, sentence by sentence: each stands word for word, with a test of its own that goes to its edges. */
public final class PowderEdgesTest {
    private static final Edges edges = new Edges();

    public static void main(String[] args) {
        rates();
        damps();
        brings();
        pours();
        weights();
        edges.end(11, 16);
    }

    private static void due(String call, long got, long want) {
        edges.due(call, got, want);
    }

    /** Brings many grains, at most 99 at a time. */
    private static void bringMany(SmellHours x, int jar, int powder, int n) {
        for (int left = n; left > 0; left -= 99) {
            x.bring(jar, powder, Math.min(left, 99));
        }
    }

    private static void rates() {
        edges.sentence(11, "POWDERS 0 to 7", PowderEdgesTest::powdersThatAre);
        edges.sentence(11, "have a RATE (1 .. 60; 10 at first).", x -> {
            for (int p = 0; p < 8; p++) {
                due("0", x.rate(p, 0), Edges.OUTSIDE);
                due("61", x.rate(p, 61), Edges.OUTSIDE);
                due("at first", x.rate(p, 1), 10);
                due("1", x.rate(p, 60), 1);
                due("60", x.rate(p, 60), 60);
            }
            for (int wild : Edges.WILD) {
                due("rate(0, " + wild + ")", x.rate(0, wild), Edges.OUTSIDE);
            }
            due("60 still", x.rate(0, 1), 60);
        });
        edges.sentence(11, "RATE becomes v: what it was. UNKNOWN, OUTSIDE.", x -> {
            due("5", x.rate(3, 5), 10);
            due("5 again", x.rate(3, 5), 5);
            due("another one's", x.rate(4, 6), 10);
            Check.lineClock(x, 0, 1, 3);
            x.light(0, 0, 0);
            due("end", x.burns(0, 0, 1), 5);
            x.rate(3, 7);
            due("end, with another rate", x.burns(0, 0, 1), 7);
            due("no powder", x.rate(8, 5), Edges.UNKNOWN);
            due("no rate", x.rate(3, 0), Edges.OUTSIDE);
            due("refused, the end stays", x.burns(0, 0, 1), 7);
        });
        edges.sentence(12, "All numbers are whole; FLOOR of a / b is the greatest whole number not above it.", x -> {
            Check.lineClock(x, 0, 1, 0);
            x.light(0, 0, 0);
            x.rate(0, 1);
            // 1.00 up to 1.50; then 2.00, 2.02, 2.98 and 3.00.
            for (int d = 0; d <= 50; d++) {
                x.damp(0, 0, d);
                due("one and " + d + " hundredths", x.burns(0, 0, 1), 1);
            }
            x.rate(0, 2);
            int[][] rows = {{0, 2}, {1, 2}, {49, 2}, {50, 3}};
            for (int[] row : rows) {
                x.damp(0, 0, row[0]);
                due("two, damp " + row[0], x.burns(0, 0, 1), row[1]);
            }
        });
        edges.sentence(12, "burns for FLOOR of RATE (100 and DAMP) / 100 ticks.", x -> {
            int[][] rows = {{1, 0, 1}, {1, 50, 1}, {2, 49, 2}, {2, 50, 3}, {3, 33, 3}, {3, 34, 4}, {7, 14, 7}, {7, 15, 8},
                {59, 1, 59}, {60, 0, 60}, {60, 1, 60}, {60, 2, 61}, {60, 50, 90}};
            Check.lineClock(x, 0, 1, 0);
            x.light(0, 0, 0);
            for (int[] row : rows) {
                x.rate(0, row[0]);
                x.damp(0, 0, row[1]);
                due("rate " + row[0] + ", damp " + row[1], x.burns(0, 0, 1), row[2]);
            }
        });
    }

    private static void powdersThatAre(SmellHours x) {
        Check.line(x, 0, 2);
        x.mount(0, 0);
        int[] are = {0, 7};
        for (int p : are) {
            due("rate", x.rate(p, 10), 10);
            due("bring", x.bring(0, p, 3), 3);
            due("pour", x.pour(0, 1, p, 1), 1);
            due("jar", x.jar(0, p), 2);
            due("lay", x.lay(0, p / 7, p, 0), 1);
            due("weighed", x.weighed(p, 0), 3);
            due("row", x.row(0, p), 0);
        }
        int[] none = {-1, 8, Integer.MIN_VALUE, Integer.MAX_VALUE};
        for (int p : none) {
            due("rate " + p, x.rate(p, 10), Edges.UNKNOWN);
            due("bring " + p, x.bring(0, p, 1), Edges.UNKNOWN);
            due("pour " + p, x.pour(0, 1, p, 1), Edges.UNKNOWN);
            due("jar " + p, x.jar(0, p), Edges.UNKNOWN);
            due("lay " + p, x.lay(0, 0, p, 0), Edges.UNKNOWN);
            due("weighed " + p, x.weighed(p, 0), p == Edges.NONE ? 6 : Edges.UNKNOWN);
            due("row " + p, x.row(0, p), Edges.UNKNOWN);
        }
    }

    private static void damps() {
        edges.sentence(12, "DAMP of an HOUR (0 .. 50; 0 at first).", x -> {
            Check.lineClock(x, 0, 1, 0);
            for (int hour = 0; hour < 100; hour++) {
                x.light(0, 0, 60 * hour);
                due("dry at first in hour " + hour, x.burns(0, 0, 1), 60 * hour + 10);
            }
            due("-1", x.damp(0, 99, -1), Edges.OUTSIDE);
            due("51", x.damp(0, 99, 51), Edges.OUTSIDE);
            due("dry still", x.burns(0, 0, 1), 5950);
            due("50", x.damp(0, 99, 50), 1);
            due("damp", x.burns(0, 0, 1), 5955);
            due("0", x.damp(0, 99, 0), 1);
            due("dry again", x.burns(0, 0, 1), 5950);
        });
        edges.sentence(12, "HOURS h (0 to 99) are 60 ticks each: HOUR h from tick 60 h on", x -> {
            Check.lineClock(x, 0, 1, 0);
            x.damp(1, 1, 50);
            int[][] rows = {{59, 10}, {60, 15}, {119, 15}, {120, 10}};
            for (int[] row : rows) {
                x.light(0, 0, row[0]);
                due("lit at " + row[0], x.burns(0, 0, 1), row[0] + row[1]);
            }
            x.damp(0, 98, 0);
            x.damp(0, 0, 20);
            x.light(0, 0, 0);
            due("hour 0 from tick 0 on", x.burns(0, 0, 1), 12);
            x.light(0, 0, 60);
            due("hour 1 is dry", x.burns(0, 0, 1), 70);
        });
        edges.sentence(12, "(99: all later ones, too)", x -> {
            Check.lineClock(x, 0, 6, 0);
            x.rate(0, 60);
            x.damp(99, 99, 50);
            x.light(0, 0, 5939);
            due("of hour 98", x.burns(0, 0, 1), 5999);
            due("of hour 99", x.burns(0, 1, 1), 6089);
            due("later", x.burns(0, 2, 1), 6179);
            due("at last", x.burns(0, 5, 1), 6449);
            x.light(0, 0, 5940);
            due("as hour 99 begins", x.burns(0, 0, 1), 6030);
            x.damp(98, 98, 10);
            due("hour 98 is nothing to it", x.burns(0, 0, 1), 6030);
        });
        edges.sentence(12, "A CELL that begins to burn at a tick of HOUR h", x -> {
            Check.lineClock(x, 0, 2, 0);
            x.damp(1, 1, 50);
            x.light(0, 0, 55);
            due("begun ahead of the damp, it burns on in it", x.burns(0, 0, 1), 65);
            due("begun in the damp", x.burns(0, 1, 1), 80);
            x.light(0, 0, 119);
            due("begun in the damp, it burns on behind it", x.burns(0, 0, 1), 134);
        });
        edges.sentence(12, "DAMP of HOURS from a to b (0 .. 99, b not below a) becomes d: 1. OUTSIDE.", PowderEdgesTest::dampsFromTo);
    }

    private static void dampsFromTo(SmellHours x) {
        Check.lineClock(x, 0, 1, 0);
        due("one hour", x.damp(2, 2, 50), 1);
        int[][] rows = {{119, 10}, {120, 15}, {179, 15}, {180, 10}};
        for (int[] row : rows) {
            x.light(0, 0, row[0]);
            due("lit at " + row[0], x.burns(0, 0, 1), row[0] + row[1]);
        }
        due("b below a", x.damp(3, 2, 0), Edges.OUTSIDE);
        due("a -1", x.damp(-1, 2, 0), Edges.OUTSIDE);
        due("b 100", x.damp(2, 100, 0), Edges.OUTSIDE);
        due("both 100", x.damp(100, 100, 0), Edges.OUTSIDE);
        due("both -1", x.damp(-1, -1, 0), Edges.OUTSIDE);
        for (int wild : Edges.WILD) {
            due("a " + wild, x.damp(wild, 99, 0), Edges.OUTSIDE);
            due("b " + wild, x.damp(0, wild, 0), Edges.OUTSIDE);
            due("d " + wild, x.damp(0, 99, wild), Edges.OUTSIDE);
        }
        x.light(0, 0, 120);
        due("refused, it stays", x.burns(0, 0, 1), 135);
        due("the last hour", x.damp(99, 99, 20), 1);
        due("the first hour", x.damp(0, 0, 30), 1);
        x.light(0, 0, 5999);
        due("lit in the last", x.burns(0, 0, 1), 6011);
        x.light(0, 0, 59);
        due("lit in the first", x.burns(0, 0, 1), 72);
        due("all hours", x.damp(0, 99, 10), 1);
        x.light(0, 0, 120);
        due("of all", x.burns(0, 0, 1), 131);
    }

    private static void brings() {
        edges.sentence(13, "JARS 0 to 3 hold grains of POWDERS.", PowderEdgesTest::jarsThatAre);
        edges.sentence(13, "n grains (1 .. 99) are brought into a JAR: how many of that POWDER it has.", x -> {
            due("0", x.bring(0, 0, 0), Edges.OUTSIDE);
            due("100", x.bring(0, 0, 100), Edges.OUTSIDE);
            due("1", x.bring(0, 0, 1), 1);
            due("99", x.bring(0, 0, 99), 100);
            due("of another powder", x.bring(0, 1, 2), 2);
            due("in another jar", x.bring(1, 0, 3), 3);
            for (int wild : Edges.WILD) {
                due("n " + wild, x.bring(0, 0, wild), Edges.OUTSIDE);
            }
        });
        edges.sentence(13, "UNKNOWN, OUTSIDE; FULL: it would have more than 999.", x -> {
            due("no jar", x.bring(4, 5, 10), Edges.UNKNOWN);
            due("no powder", x.bring(2, 8, 10), Edges.UNKNOWN);
            due("no grains", x.bring(2, 5, 0), Edges.OUTSIDE);
            bringMany(x, 2, 5, 990);
            due("10 to 990", x.bring(2, 5, 10), Edges.FULL);
            due("9 to 990", x.bring(2, 5, 9), 999);
            due("1 to 999", x.bring(2, 5, 1), Edges.FULL);
            due("of another powder", x.bring(2, 4, 99), 99);
            due("in another jar", x.bring(3, 5, 99), 99);
            due("999 still", x.jar(2, 5), 999);
        });
        edges.sentence(14, "Grains of a POWDER in a JAR. UNKNOWN.", x -> {
            for (int wild : Edges.WILD) {
                due("jar " + wild, x.jar(wild, 0), Edges.UNKNOWN);
                due("powder " + wild, x.jar(0, wild), Edges.UNKNOWN);
            }
            due("jar 4", x.jar(4, 7), Edges.UNKNOWN);
            due("powder 8", x.jar(3, 8), Edges.UNKNOWN);
            for (int jar = 0; jar < 4; jar++) {
                for (int p = 0; p < 8; p++) {
                    due("none at first", x.jar(jar, p), 0);
                }
            }
            x.bring(3, 7, 4);
            x.bring(0, 0, 6);
            due("the last of the last", x.jar(3, 7), 4);
            due("the first of the first", x.jar(0, 0), 6);
            due("beside it", x.jar(0, 1), 0);
            due("the last of the first", x.jar(0, 7), 0);
            due("the first of the next", x.jar(1, 0), 0);
        });
    }

    private static void jarsThatAre(SmellHours x) {
        Check.line(x, 0, 3);
        x.mount(0, 0);
        int[] are = {0, 3};
        for (int jar : are) {
            due("bring", x.bring(jar, 2, 5), 5);
            due("lay", x.lay(0, jar == 0 ? 0 : 1, 2, jar), 4);
            due("jar", x.jar(jar, 2), 4);
            due("pour", x.pour(jar, 1, 2, 1), 1);
            due("sweep", x.sweep(0, jar), 1);
        }
        int[] none = {-1, 4, Integer.MIN_VALUE, Integer.MAX_VALUE};
        for (int jar : none) {
            due("bring " + jar, x.bring(jar, 2, 1), Edges.UNKNOWN);
            due("jar " + jar, x.jar(jar, 2), Edges.UNKNOWN);
            due("pour from " + jar, x.pour(jar, 0, 2, 1), Edges.UNKNOWN);
            due("pour to " + jar, x.pour(0, jar, 2, 1), Edges.UNKNOWN);
            due("lay " + jar, x.lay(0, 0, 2, jar), Edges.UNKNOWN);
            due("sweep " + jar, x.sweep(0, jar), Edges.UNKNOWN);
        }
    }

    private static void pours() {
        edges.sentence(15, "REFUSALS, of several the first in this order: UNKNOWN (a SEAL, CLOCK, CELL of a PATH, BALL, JAR, POWDER that"
            + " there is not), OUTSIDE (another number out of its bounds), NOT (not now, as told), FULL, SPENT (as told).",
            PowderEdgesTest::refusalsInOrder);
        edges.sentence(15, "What is refused changes nothing.", x -> {
            bringMany(x, 0, 3, 999);
            bringMany(x, 1, 3, 7);
            x.pour(1, 4, 3, 1);
            x.pour(1, 0, 3, 100);
            x.pour(2, 1, 3, 1);
            x.pour(1, 0, 3, 7);
            int[] due = {999, 7, 0, 0};
            for (int jar = 0; jar < 4; jar++) {
                due("jar " + jar, x.jar(jar, 3), due[jar]);
            }
            due("brought", x.weighed(3, 0), 1006);
        });
        edges.sentence(15, "n grains (1 .. 99) of a POWDER go from one JAR to another one: 1.", x -> {
            bringMany(x, 0, 6, 250);
            due("0", x.pour(0, 3, 6, 0), Edges.OUTSIDE);
            due("100", x.pour(0, 3, 6, 100), Edges.OUTSIDE);
            due("99", x.pour(0, 3, 6, 99), 1);
            due("1", x.pour(0, 3, 6, 1), 1);
            due("from", x.jar(0, 6), 150);
            due("to", x.jar(3, 6), 100);
            for (int wild : Edges.WILD) {
                due("n " + wild, x.pour(0, 3, 6, wild), Edges.OUTSIDE);
            }
        });
        edges.sentence(15, "UNKNOWN, OUTSIDE (also the same one)", x -> {
            due("jar 4 to itself", x.pour(4, 4, 0, 9), Edges.UNKNOWN);
            due("jar -1 to itself", x.pour(-1, -1, 0, 9), Edges.UNKNOWN);
            due("no powder", x.pour(0, 1, 8, 9), Edges.UNKNOWN);
            for (int jar = 0; jar < 4; jar++) {
                x.bring(jar, 0, 9);
                due("to itself", x.pour(jar, jar, 0, 9), Edges.OUTSIDE);
                due("it has them still", x.jar(jar, 0), 9);
            }
        });
        edges.sentence(15, "NOT: there are not so many", x -> {
            due("of none", x.pour(1, 2, 3, 1), Edges.NOT);
            x.bring(1, 3, 40);
            x.bring(1, 4, 40);
            due("41 of 40", x.pour(1, 2, 3, 41), Edges.NOT);
            due("40 of 40", x.pour(1, 2, 3, 40), 1);
            due("none is left", x.pour(1, 2, 3, 1), Edges.NOT);
            due("another powder is not poured", x.jar(1, 4), 40);
        });
        edges.sentence(15, "FULL: 999.", x -> {
            bringMany(x, 1, 3, 950);
            bringMany(x, 0, 3, 60);
            due("50 to 950", x.pour(0, 1, 3, 50), Edges.FULL);
            due("49 to 950", x.pour(0, 1, 3, 49), 1);
            due("1 to 999", x.pour(0, 1, 3, 1), Edges.FULL);
            due("999", x.jar(1, 3), 999);
            due("11 are left", x.jar(0, 3), 11);
            due("12 of 11 to 999", x.pour(0, 1, 3, 12), Edges.NOT);
        });
    }

    /** What is asked of each call is mended from one to the next, so that the refusal that comes next is seen. */
    private static void refusalsInOrder(SmellHours x) {
        bringMany(x, 1, 3, 950);
        bringMany(x, 0, 3, 60);
        due("no jar, outside, not so many, full", x.pour(4, 1, 3, 100), Edges.UNKNOWN);
        due("outside, not so many, full", x.pour(0, 1, 3, 100), Edges.OUTSIDE);
        due("not so many, full", x.pour(0, 1, 3, 61), Edges.NOT);
        due("full", x.pour(0, 1, 3, 60), Edges.FULL);
        due("none", x.pour(0, 1, 3, 49), 1);
        x.board(0, 6, 6);
        x.bar(0, 0, true);
        x.bound(100);
        due("no seal, outside, barred, spent", x.draw(6, 0, 35, 37, false, 0), Edges.UNKNOWN);
        due("outside, barred, spent", x.draw(0, 0, 35, 37, false, 0), Edges.OUTSIDE);
        due("barred, spent", x.draw(0, 0, 35, 36, false, 0), Edges.NOT);
        x.bar(0, 0, false);
        due("spent", x.draw(0, 0, 35, 36, false, 0), Edges.SPENT);
        Check.line(x, 1, 2);
        x.mount(0, 1);
        due("no cell, outside, bare", x.gone(0, 2, -1, 0, 0, 0, 0), Edges.UNKNOWN);
        due("outside, bare", x.gone(0, 1, -1, 0, 0, 0, 0), Edges.OUTSIDE);
        due("bare", x.gone(0, 1, 0, 0, 0, 0, 0), Edges.NOT);
        for (int k = 0; k < 12; k++) {
            x.again(0, 0, 0);
        }
        due("no cell, outside, full", x.again(0, 2, 6000), Edges.UNKNOWN);
        due("outside, full", x.again(0, 0, 6000), Edges.OUTSIDE);
        due("full again", x.again(0, 0, 0), Edges.FULL);
        due("no ball", x.drops(0), Edges.UNKNOWN);
    }

    private static void weights() {
        edges.sentence(16, "Of a POWDER (NONE: of all): what = 0 grains brought, 1 in JARS, 2 in CELLS, 3 ASHES. UNKNOWN, OUTSIDE.", x -> {
            Check.lineClock(x, 0, 3, 7);
            x.bring(0, 0, 5);
            x.bring(3, 7, 2);
            x.light(0, 0, 0);
            x.dawn();
            x.lay(0, 1, 7, 3);
            int[] of7 = {5, 1, 1, 3};
            int[] ofAll = {10, 6, 1, 3};
            for (int what = 0; what < 4; what++) {
                due("of 7, what = " + what, x.weighed(7, what), of7[what]);
                due("of all, what = " + what, x.weighed(Edges.NONE, what), ofAll[what]);
                due("of 1, what = " + what, x.weighed(1, what), 0);
                due("of -2", x.weighed(-2, what), Edges.UNKNOWN);
                due("of 8", x.weighed(8, what), Edges.UNKNOWN);
            }
            due("what -1", x.weighed(0, -1), Edges.OUTSIDE);
            due("what 4", x.weighed(0, 4), Edges.OUTSIDE);
            for (int wild : Edges.WILD) {
                due("what " + wild, x.weighed(Edges.NONE, wild), Edges.OUTSIDE);
                due("of " + wild, x.weighed(wild, 0), Edges.UNKNOWN);
            }
        });
        edges.sentence(16, "WEIGHED: grains brought are those in JARS, in CELLS and ASHES together.", x -> {
            bringMany(x, 0, 2, 999);
            due("brought", x.weighed(2, 0), 999);
            Check.line(x, 0, 6);
            x.mount(0, 0);
            x.mount(1, 0);
            x.row(0, 2);
            due("filled", x.fill(0, 0, 1), 6);
            due("brought still, as it is filled", x.weighed(2, 0), 999);
            x.lay(1, 5, 2, 0);
            x.pour(0, 3, 2, 50);
            due("brought still, as it is poured", x.weighed(2, 0), 999);
            x.light(0, 0, 0);
            due("six burn", x.dawn(), 6);
            due("brought still, as it is burnt", x.weighed(2, 0), 999);
            x.sweep(1, 2);
            due("brought still, as it is swept", x.weighed(2, 0), 999);
            due("in jars", x.weighed(2, 1), 993);
            due("in cells", x.weighed(2, 2), 0);
            due("ashes", x.weighed(2, 3), 6);
            x.bring(0, 2, 7);
            due("ashes do not fill a jar", x.weighed(2, 0), 1006);
        });
    }
}
