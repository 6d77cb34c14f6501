/** Promises 24 to 31, sentence by sentence: each stands word for word, with a test of its own that goes to its edges. */
public final class NightEdgesTest {
    private static final Edges edges = new Edges();

    public static void main(String[] args) {
        fires();
        hands();
        linksLight();
        linksRefused();
        lightsOfLikeTicks();
        agains();
        againsInOrder();
        calms();
        nights();
        scents();
        dawns();
        edges.end(24, 31);
    }

    private static void due(String call, long got, long want) {
        edges.due(call, got, want);
    }

    /** Clock c: a line of n cells of powder 0, ten ticks each, but for those that are told to be bare. */
    private static void clock(SmellHours x, int c, int n, int... bare) {
        Check.lineClock(x, c, n, 0);
        x.sweep(c, 0);
        for (int i = 0; i < n; i++) {
            boolean isBare = false;
            for (int one : bare) {
                isBare |= one == i;
            }
            if (!isBare) {
                x.lay(c, i, 0, 0);
            }
        }
    }

    private static void begins(SmellHours x, int c, int... ticks) {
        for (int i = 0; i < ticks.length; i++) {
            due("begin of cell " + i, x.burns(c, i, 0), ticks[i]);
            due("end of cell " + i, x.burns(c, i, 1), ticks[i] == Edges.NONE ? Edges.NONE : ticks[i] + 10);
        }
    }

    private static void night(SmellHours x, int c, int lit, int out, int cells, int cell) {
        due("clock " + c + " lit", x.night(c, 0), lit);
        due("clock " + c + " out", x.night(c, 1), out);
        due("clock " + c + " cells", x.night(c, 2), cells);
        due("clock " + c + " lit at cell", x.night(c, 3), cell);
    }

    private static void notLit(SmellHours x, int c) {
        night(x, c, Edges.NONE, Edges.NONE, 0, Edges.NONE);
    }

    private static void fires() {
        edges.sentence(29, "FIRE: a CELL that is lit at a tick BEGINS then", x -> {
            clock(x, 0, 3);
            x.light(0, 0, 0);
            begins(x, 0, 0, 10, 20);
            x.light(0, 2, 5999);
            begins(x, 0, 6019, 6009, 5999);
            x.light(0, 1, 7);
            begins(x, 0, 17, 7, 17);
        });
        edges.sentence(29, "each other CELL that is not BARE BEGINS when the first of its NEIGHBOURS among the CELLS is burnt", x -> {
            // Cells 0 1 2 3 go around a square; cell 2 has 1 and 3 beside it.
            Check.snake(x, 0, 2, 2);
            x.mount(0, 0);
            x.rate(1, 15);
            x.bring(0, 0, 9);
            x.bring(0, 1, 9);
            x.lay(0, 0, 0, 0);
            x.lay(0, 1, 1, 0);
            x.lay(0, 2, 0, 0);
            x.lay(0, 3, 0, 0);
            x.light(0, 0, 0);
            due("by cell 3, though cell 1 is ahead of it", x.burns(0, 2, 0), 20);
            x.rate(1, 5);
            due("by cell 1", x.burns(0, 2, 0), 15);
        });
        edges.sentence(29, "when the first of its NEIGHBOURS among the CELLS is burnt", NightEdgesTest::overtaken);
        edges.sentence(29, "burnt it is as many ticks later as it burns (END).", x -> {
            Check.line(x, 0, 4);
            x.mount(0, 0);
            int[] rates = {1, 60, 7, 20};
            for (int i = 0; i < 4; i++) {
                x.rate(i, rates[i]);
                x.bring(0, i, 1);
                x.lay(0, i, i, 0);
            }
            x.damp(1, 1, 50);
            x.light(0, 0, 58);
            // 58 and 1, 59 and 60, then dry again: 119 in hour 1 and 10, 129 and 20.
            int[] ticks = {58, 59, 119, 129, 149};
            for (int i = 0; i < 4; i++) {
                due("begin of cell " + i, x.burns(0, i, 0), ticks[i]);
                due("end of cell " + i, x.burns(0, i, 1), ticks[i + 1]);
            }
        });
        edges.sentence(29, "each other CELL that is not BARE", x -> {
            clock(x, 0, 5, 2);
            x.light(0, 0, 0);
            begins(x, 0, 0, 10, Edges.NONE, Edges.NONE, Edges.NONE);
            x.light(0, 4, 0);
            begins(x, 0, Edges.NONE, Edges.NONE, Edges.NONE, 10, 0);
        });
        edges.sentence(29, "(So where WALLS are not SOUND, it jumps.)", x -> {
            // 0 1 2 and, one row below, 5 4 3 of them: cells 0 and 5, 1 and 4 touch.
            Check.snake(x, 0, 3, 2);
            x.mount(0, 0);
            x.bring(0, 0, 9);
            x.fill(0, 0, 1);
            x.light(0, 0, 0);
            begins(x, 0, 0, 10, 20, 30, 20, 10);
            x.sweep(0, 0);
            x.lay(0, 0, 0, 0);
            x.lay(0, 5, 0, 0);
            begins(x, 0, 0, Edges.NONE, Edges.NONE, Edges.NONE, Edges.NONE, 10);
        });
        edges.sentence(29, "NEIGHBOURS among the CELLS", x -> {
            // Around a gap of squares that are no cells: 0 3 6 7 8 5 2.
            x.board(0, 3, 3);
            int[] path = {0, 3, 6, 7, 8, 5, 2};
            for (int square : path) {
                x.go(0, square);
            }
            x.mount(0, 0);
            x.bring(0, 0, 9);
            x.fill(0, 0, 2);
            x.light(0, 0, 0);
            begins(x, 0, 0, 10, 20, 30, 40, 50, 60);
        });
        edges.sentence(29, "BEGIN (what = 0), END (1) of a CELL; NONE. UNKNOWN, OUTSIDE.", x -> {
            clock(x, 0, 2);
            x.light(0, 0, 33);
            due("begin", x.burns(0, 1, 0), 43);
            due("end", x.burns(0, 1, 1), 53);
            x.calm();
            due("not lit", x.burns(0, 0, 0), Edges.NONE);
            due("nor burnt", x.burns(0, 0, 1), Edges.NONE);
            due("what -1", x.burns(0, 0, -1), Edges.OUTSIDE);
            due("what 2", x.burns(0, 0, 2), Edges.OUTSIDE);
            due("cell -1", x.burns(0, -1, 0), Edges.UNKNOWN);
            due("cell 2", x.burns(0, 2, 0), Edges.UNKNOWN);
            due("a clock without cells", x.burns(1, 0, 0), Edges.UNKNOWN);
            for (int wild : Edges.WILD) {
                due("what " + wild, x.burns(0, 0, wild), Edges.OUTSIDE);
                due("cell " + wild, x.burns(0, wild, 0), Edges.UNKNOWN);
            }
        });
    }

    /** Fire goes round a ring both ways, and the way that is reached first is the slower one. */
    private static void overtaken(SmellHours x) {
        x.board(0, 2, 3);
        int[] ring = {0, 1, 3, 5, 4, 2};
        for (int square : ring) {
            x.go(0, square);
        }
        x.mount(0, 0);
        x.rate(0, 10);
        x.rate(1, 60);
        x.rate(2, 1);
        int[] powders = {0, 0, 0, 2, 2, 1};
        for (int i = 0; i < 6; i++) {
            x.bring(0, powders[i], 1);
            x.lay(0, i, powders[i], 0);
        }
        x.light(0, 0, 0);
        // Cells 1 and 5 from 10 on: 5 burns till 70, 1 till 20, 2 till 30, 3 till 31, 4 till 32.
        int[] ends = {10, 20, 30, 31, 32, 70};
        for (int i = 0; i < 6; i++) {
            due("end of cell " + i, x.burns(0, i, 1), ends[i]);
        }
        x.light(0, 3, 0);
        // 3 till 1; 4 till 2, 2 till 11; 5 from 2 till 62, 1 till 21, 0 till 31.
        int[] others = {31, 21, 11, 1, 2, 62};
        for (int i = 0; i < 6; i++) {
            due("end of cell " + i + ", lit at 3", x.burns(0, i, 1), others[i]);
        }
    }

    private static void hands() {
        edges.sentence(24, "A NIGHT, at ticks 0 to 5999: a CLOCK is LIT by HAND at a tick at a CELL", x -> {
            clock(x, 0, 1);
            due("-2", x.light(0, 0, -2), Edges.OUTSIDE);
            due("6000", x.light(0, 0, 6000), Edges.OUTSIDE);
            due("0", x.light(0, 0, 0), 1);
            night(x, 0, 0, 10, 1, 0);
            due("5999", x.light(0, 0, 5999), 1);
            night(x, 0, 5999, 6009, 1, 0);
            for (int wild : Edges.WILD) {
                due("tick " + wild, x.light(0, 0, wild), Edges.OUTSIDE);
            }
            due("lit still", x.night(0, 0), 5999);
        });
        edges.sentence(24, "A CLOCK is LIT by HAND (tick 0 .. 5999; NONE: no HAND): 1. UNKNOWN, OUTSIDE.", x -> {
            clock(x, 0, 3);
            due("none, as it was", x.light(0, 1, Edges.NONE), 1);
            notLit(x, 0);
            x.light(0, 1, 0);
            due("none", x.light(0, 2, Edges.NONE), 1);
            notLit(x, 0);
            x.light(0, 2, 3);
            night(x, 0, 3, 33, 3, 2);
            due("no clock", x.light(4, 0, 0), Edges.UNKNOWN);
            due("no cell, no hand", x.light(0, 3, Edges.NONE), Edges.UNKNOWN);
            due("no tick", x.light(0, 0, -2), Edges.OUTSIDE);
            night(x, 0, 3, 33, 3, 2);
        });
        edges.sentence(24, "(one HAND for each; a new one in its place)", x -> {
            clock(x, 0, 2);
            clock(x, 1, 2);
            x.light(0, 1, 5);
            x.light(1, 0, 6);
            x.light(0, 0, 90);
            night(x, 0, 90, 110, 2, 0);
            night(x, 1, 6, 26, 2, 0);
            due("refused", x.light(0, 1, 6000), Edges.OUTSIDE);
            night(x, 0, 90, 110, 2, 0);
        });
        edges.sentence(24, "UNKNOWN (a SEAL, CLOCK, CELL of a PATH", x -> {
            clock(x, 0, 2);
            due("cell -1", x.light(0, -1, 0), Edges.UNKNOWN);
            due("cell 2", x.light(0, 2, 0), Edges.UNKNOWN);
            due("a clock without cells", x.light(1, 0, 0), Edges.UNKNOWN);
            for (int wild : Edges.WILD) {
                due("cell " + wild, x.light(0, wild, 0), Edges.UNKNOWN);
            }
            notLit(x, 0);
            due("cell 1", x.light(0, 1, 0), 1);
        });
        edges.sentence(24, "if the CELL is BARE then, nothing burns.", x -> {
            clock(x, 0, 2);
            clock(x, 1, 3, 2);
            x.light(1, 2, 5);
            night(x, 1, 5, 5, 0, 2);
            due("count of those lit", x.count(5), 1);
            x.link(0, 0, 1);
            x.light(0, 0, 6);
            night(x, 1, 5, 5, 0, 2);
            due("its cell 0 does not begin", x.burns(1, 0, 0), Edges.NONE);
            x.light(0, 0, 4);
            night(x, 1, 4, 24, 2, 0);
        });
    }

    private static void linksLight() {
        edges.sentence(25, "when a CELL of a CLOCK BEGINS (for the first time), at CELL 0 of another one", x -> {
            clock(x, 0, 3, 2);
            clock(x, 1, 3);
            x.link(0, 1, 1);
            notLit(x, 1);
            x.light(0, 0, 100);
            night(x, 1, 110, 140, 3, 0);
            x.calm();
            x.link(0, 2, 1);
            x.light(0, 0, 100);
            notLit(x, 1);
            x.light(0, 2, 100);
            notLit(x, 1);
        });
        edges.sentence(25, "A LINK from CELL i of CLOCK b to CLOCK c", x -> {
            clock(x, 0, 6);
            clock(x, 3, 1);
            clock(x, 2, 1);
            x.light(0, 0, 0);
            x.link(0, 0, 3);
            x.link(0, 5, 2);
            night(x, 3, 0, 10, 1, 0);
            night(x, 2, 50, 60, 1, 0);
            x.link(3, 0, 2);
            night(x, 2, 0, 10, 1, 0);
        });
        edges.sentence(25, "or by a LINK (12 at most): when a CELL of a CLOCK BEGINS", NightEdgesTest::lastNight);
        edges.sentence(25, "if the CELL is BARE then, nothing burns.", x -> {
            clock(x, 0, 2);
            clock(x, 1, 3, 0);
            x.link(0, 1, 1);
            x.light(0, 0, 0);
            x.light(1, 1, 11);
            night(x, 1, 10, 10, 0, 0);
            x.light(1, 1, 9);
            night(x, 1, 9, 29, 2, 1);
        });
        edges.sentence(25, "no LINK counting that does not come from one that came.", x -> {
            clock(x, 0, 2);
            clock(x, 1, 2);
            clock(x, 2, 2);
            x.link(0, 1, 1);
            x.link(1, 1, 0);
            notLit(x, 0);
            notLit(x, 1);
            x.light(2, 0, 0);
            notLit(x, 0);
            x.light(1, 0, 50);
            night(x, 0, 60, 80, 2, 0);
            night(x, 1, 50, 70, 2, 0);
            x.light(0, 0, 3);
            night(x, 0, 3, 23, 2, 0);
            night(x, 1, 13, 33, 2, 0);
        });
        edges.sentence(25, "CLOCKS come one by one: that which is LIT first of those left", x -> {
            for (int c = 0; c < 4; c++) {
                clock(x, c, 3);
            }
            // 3 is lit by hand, then 2 by 3, 1 by 2, 0 by 1: each ahead of the hand that it has.
            for (int c = 3; c >= 0; c--) {
                x.light(c, 2, 100 + 15 * (3 - c));
                if (c > 0) {
                    x.link(c, 1, c - 1);
                }
            }
            night(x, 3, 100, 130, 3, 2);
            night(x, 2, 110, 140, 3, 0);
            night(x, 1, 120, 150, 3, 0);
            night(x, 0, 130, 160, 3, 0);
            due("all are lit", x.count(5), 4);
        });
    }

    /** Four clocks that burn as slowly as they can, lit at the last tick of a night, each by the last cell of the one ahead. */
    private static void lastNight(SmellHours x) {
        // Three rows with a row between two of them, so that fire does not jump.
        int[] path = {0, 1, 2, 3, 4, 5, 11, 17, 16, 15, 14, 13, 12, 18, 24, 25, 26, 27, 28, 29, 35};
        x.board(0, 6, 6);
        for (int square : path) {
            x.go(0, square);
        }
        x.rate(0, 60);
        x.damp(0, 99, 50);
        for (int c = 0; c < 4; c++) {
            x.mount(c, 0);
            x.bring(0, 0, 21);
            for (int i = 0; i < 21; i++) {
                x.lay(c, i, 0, 0);
            }
        }
        for (int c = 0; c < 3; c++) {
            x.link(c, 20, c + 1);
        }
        x.light(0, 0, 5999);
        for (int c = 0; c < 4; c++) {
            int lit = 5999 + 20 * 90 * c;
            night(x, c, lit, lit + 21 * 90, 21, 0);
        }
        due("the last cell begins", x.burns(3, 20, 0), 13199);
        due("it burns", x.scent(3, 13288), 1);
        due("it is out", x.scent(3, 13289), 0);
    }

    private static void linksRefused() {
        edges.sentence(25, "A LINK from CELL i of CLOCK b to CLOCK c: how many there are. UNKNOWN, OUTSIDE (b is c), FULL.", x -> {
            clock(x, 0, 2);
            clock(x, 1, 2);
            due("cell -1", x.link(0, -1, 1), Edges.UNKNOWN);
            due("cell 2", x.link(0, 2, 1), Edges.UNKNOWN);
            due("from one without cells", x.link(2, 0, 1), Edges.UNKNOWN);
            due("to one without cells", x.link(0, 0, 2), Edges.UNKNOWN);
            due("to itself", x.link(1, 1, 1), Edges.OUTSIDE);
            due("to itself, a cell that there is not", x.link(1, 2, 1), Edges.UNKNOWN);
            for (int wild : Edges.WILD) {
                due("from clock " + wild, x.link(wild, 0, 1), Edges.UNKNOWN);
                due("from cell " + wild, x.link(0, wild, 1), Edges.UNKNOWN);
                due("to clock " + wild, x.link(0, 0, wild), Edges.UNKNOWN);
            }
            due("no links", x.count(2), 0);
            due("the last cell", x.link(0, 1, 1), 1);
            due("the same again", x.link(0, 1, 1), 2);
            due("back", x.link(1, 0, 0), 3);
        });
        edges.sentence(25, "or by a LINK (12 at most)", x -> {
            clock(x, 0, 2);
            clock(x, 1, 2);
            clock(x, 2, 2);
            for (int k = 1; k <= 12; k++) {
                due("link " + k, x.link(0, 1, k < 12 ? 1 : 2), k);
            }
            due("one more", x.link(0, 0, 1), Edges.FULL);
            due("twelve", x.count(2), 12);
            x.light(0, 0, 0);
            due("the twelfth counts", x.night(2, 0), 10);
            due("one more is nothing", x.night(1, 0), 10);
            x.calm();
            due("room again", x.link(0, 0, 1), 1);
        });
    }

    private static void lightsOfLikeTicks() {
        edges.sentence(25, "of all these the earliest", x -> {
            clock(x, 0, 6);
            clock(x, 1, 2);
            x.light(0, 0, 0);
            x.light(1, 1, 35);
            x.link(0, 4, 1);
            night(x, 1, 35, 55, 2, 1);
            x.link(0, 3, 1);
            night(x, 1, 30, 50, 2, 0);
            x.link(0, 5, 1);
            night(x, 1, 30, 50, 2, 0);
            x.link(0, 2, 1);
            night(x, 1, 20, 40, 2, 0);
            x.light(1, 1, 19);
            night(x, 1, 19, 39, 2, 1);
        });
        edges.sentence(25, "(of like ones HAND ahead of LINKS, these as they were told)", x -> {
            clock(x, 0, 2);
            clock(x, 1, 3, 2);
            x.link(0, 1, 1);
            x.link(0, 1, 1);
            x.light(0, 0, 0);
            x.light(1, 1, 10);
            night(x, 1, 10, 30, 2, 1);
            x.light(1, 2, 10);
            night(x, 1, 10, 10, 0, 2);
            x.light(1, 1, 11);
            night(x, 1, 10, 30, 2, 0);
            x.light(1, 1, 9);
            night(x, 1, 9, 29, 2, 1);
        });
        edges.sentence(25, "of like ones the least number", x -> {
            // Both lit by hand at one tick, and by one another then: each has its hand.
            clock(x, 1, 3);
            clock(x, 2, 3);
            x.link(1, 2, 2);
            x.link(2, 1, 1);
            x.light(1, 2, 40);
            x.light(2, 1, 40);
            night(x, 1, 40, 70, 3, 2);
            night(x, 2, 40, 60, 3, 1);
        });
    }

    private static void agains() {
        edges.sentence(26, ": at a tick at a CELL: if the CLOCK is OUT by then", NightEdgesTest::againWhenOut);
        edges.sentence(26, "and the CELL is not BARE and never BEGAN", x -> {
            clock(x, 0, 5, 2);
            x.light(0, 0, 0);
            x.again(0, 2, 100);
            night(x, 0, 0, 20, 2, 0);
            x.again(0, 0, 100);
            night(x, 0, 0, 20, 2, 0);
            x.again(0, 3, 100);
            night(x, 0, 0, 120, 4, 0);
            x.again(0, 4, 200);
            x.again(0, 3, 300);
            night(x, 0, 0, 120, 4, 0);
            due("it began once", x.burns(0, 3, 0), 100);
        });
        edges.sentence(26, "FIRE goes on from it (CELLS that BEGAN being BARE), and it is OUT later", x -> {
            // A ring of eight without its middle: fire from 0 up to bare cells 3 and 6; again at 5, to 4 and not beyond.
            x.board(0, 3, 3);
            int[] path = {0, 1, 2, 5, 8, 7, 6, 3};
            for (int square : path) {
                x.go(0, square);
            }
            x.mount(0, 0);
            x.bring(0, 0, 9);
            for (int i = 0; i < 8; i++) {
                if (i != 3 && i != 6) {
                    x.lay(0, i, 0, 0);
                }
            }
            x.light(0, 0, 0);
            begins(x, 0, 0, 10, 20, Edges.NONE, Edges.NONE, Edges.NONE, Edges.NONE, 10);
            x.again(0, 5, 500);
            begins(x, 0, 0, 10, 20, Edges.NONE, 510, 500, Edges.NONE, 10);
            night(x, 0, 0, 520, 6, 0);
        });
        edges.sentence(26, "(CELLS that BEGAN being BARE)", x -> {
            clock(x, 0, 5, 2);
            x.light(0, 1, 0);
            x.again(0, 4, 20);
            begins(x, 0, 10, 0, Edges.NONE, 30, 20);
            x.again(0, 1, 40);
            x.again(0, 3, 40);
            begins(x, 0, 10, 0, Edges.NONE, 30, 20);
            night(x, 0, 0, 40, 4, 1);
            due("each burns once", x.dawn(), 4);
        });
        edges.sentence(26, "else it is nothing.", x -> {
            clock(x, 0, 4, 1);
            due("not lit", x.again(0, 0, 50), 1);
            notLit(x, 0);
            due("its grain stays", x.dawn(), 0);
            x.light(0, 0, 100);
            due("ahead of the light", x.again(0, 3, 50), 1);
            night(x, 0, 100, 110, 1, 0);
            due("it is counted", x.count(3), 1);
        });
        edges.sentence(26, "BEGIN and END of CELLS are of this whole NIGHT.", x -> {
            clock(x, 0, 3, 1);
            clock(x, 1, 1);
            x.light(0, 0, 0);
            x.link(0, 2, 1);
            notLit(x, 1);
            x.again(0, 2, 700);
            begins(x, 0, 0, Edges.NONE, 700);
            night(x, 1, 700, 710, 1, 0);
            x.hang(0, 2);
            due("a ball", x.drops(0), 700);
            due("scent", x.scent(0, 709), 1);
        });
    }

    private static void againWhenOut(SmellHours x) {
        clock(x, 0, 4, 2);
        x.light(0, 0, 100);
        x.again(0, 3, 119);
        night(x, 0, 100, 120, 2, 0);
        x.again(0, 3, 120);
        night(x, 0, 100, 130, 3, 0);
        x.calm();
        x.light(0, 2, 100);
        x.again(0, 3, 99);
        night(x, 0, 100, 100, 0, 2);
        x.again(0, 3, 100);
        night(x, 0, 100, 110, 1, 2);
        x.light(0, 2, Edges.NONE);
        notLit(x, 0);
    }

    private static void againsInOrder() {
        edges.sentence(26, "AGAIN (12 at most, by ticks, of like ones as told)", x -> {
            clock(x, 0, 6, 1, 3);
            x.light(0, 0, 0);
            x.again(0, 4, 90);
            x.again(0, 2, 50);
            x.again(0, 5, 50);
            // 2 from 50 to 60; then 5 is nothing; 4 and 5 from 90 on.
            begins(x, 0, 0, Edges.NONE, 50, Edges.NONE, 90, 100);
            x.again(0, 5, 60);
            begins(x, 0, 0, Edges.NONE, 50, Edges.NONE, 70, 60);
        });
        edges.sentence(26, "of like ones as told", x -> {
            clock(x, 0, 5, 1, 3);
            x.light(0, 0, 0);
            x.again(0, 4, 50);
            x.again(0, 2, 50);
            begins(x, 0, 0, Edges.NONE, Edges.NONE, Edges.NONE, 50);
            x.calm();
            x.light(0, 0, 0);
            x.again(0, 2, 50);
            x.again(0, 4, 50);
            begins(x, 0, 0, Edges.NONE, 50, Edges.NONE, Edges.NONE);
        });
        edges.sentence(26, "An AGAIN: how many there are. UNKNOWN, OUTSIDE, FULL.", x -> {
            clock(x, 0, 3, 1);
            x.light(0, 0, 0);
            due("-1", x.again(0, 2, -1), Edges.OUTSIDE);
            due("6000", x.again(0, 2, 6000), Edges.OUTSIDE);
            due("cell -1", x.again(0, -1, 0), Edges.UNKNOWN);
            due("cell 3", x.again(0, 3, 0), Edges.UNKNOWN);
            due("a clock without cells", x.again(1, 0, 0), Edges.UNKNOWN);
            for (int wild : Edges.WILD) {
                due("cell " + wild, x.again(0, wild, 0), Edges.UNKNOWN);
                due("tick " + wild, x.again(0, 2, wild), Edges.OUTSIDE);
            }
            due("0", x.again(0, 2, 0), 1);
            night(x, 0, 0, 10, 1, 0);
            due("5999", x.again(0, 2, 5999), 2);
            night(x, 0, 0, 6009, 2, 0);
        });
        edges.sentence(26, "(12 at most", x -> {
            clock(x, 0, 3, 1);
            x.light(0, 0, 0);
            for (int k = 1; k <= 12; k++) {
                due("again " + k, x.again(0, 0, 5999 - k), k);
            }
            due("one more", x.again(0, 2, 100), Edges.FULL);
            night(x, 0, 0, 10, 1, 0);
            due("twelve", x.count(3), 12);
            x.calm();
            x.light(0, 0, 0);
            due("room again", x.again(0, 2, 100), 1);
            night(x, 0, 0, 110, 2, 0);
        });
    }

    private static void calms() {
        edges.sentence(27, "No HANDS, LINKS, AGAINS: how many LINKS and AGAINS there were.", x -> {
            due("of none", x.calm(), 0);
            clock(x, 0, 2);
            clock(x, 1, 2);
            x.light(0, 0, 0);
            due("of a hand alone", x.calm(), 0);
            notLit(x, 0);
            for (int k = 0; k < 12; k++) {
                x.link(0, 1, 1);
                x.again(0, 0, 9);
            }
            x.light(0, 0, 0);
            due("of all that can be", x.calm(), 24);
            due("no links", x.count(2), 0);
            due("no agains", x.count(3), 0);
            due("none is lit", x.count(5), 0);
            due("again", x.calm(), 0);
            x.light(0, 0, 0);
            notLit(x, 1);
            due("grains stay", x.weighed(0, 2), 4);
        });
    }

    private static void nights() {
        edges.sentence(28, "It is OUT behind the greatest END (at the tick at which it was LIT, if nothing burns).", x -> {
            clock(x, 0, 3);
            x.light(0, 1, 30);
            due("the end of both sides", x.night(0, 1), 50);
            x.sweep(0, 0);
            due("bare", x.night(0, 1), 30);
            x.bring(0, 1, 2);
            x.rate(1, 60);
            x.lay(0, 1, 0, 0);
            x.lay(0, 0, 1, 0);
            x.lay(0, 2, 0, 0);
            due("the greatest, not the last cell's", x.night(0, 1), 100);
        });
        edges.sentence(28, "Of a CLOCK in THE NIGHT: what = 0 the tick at which it is LIT, 1 at which it is OUT, 2 how many CELLS burn,"
            + " 3 the CELL at which it is LIT (NONE of 0, 1, 3: it is not). UNKNOWN, OUTSIDE.", x -> {
            for (int c = 0; c < 4; c++) {
                notLit(x, c);
            }
            clock(x, 0, 2);
            notLit(x, 0);
            due("what -1", x.night(0, -1), Edges.OUTSIDE);
            due("what 4", x.night(0, 4), Edges.OUTSIDE);
            for (int wild : Edges.WILD) {
                due("what " + wild, x.night(0, wild), Edges.OUTSIDE);
                due("clock " + wild, x.night(wild, 0), Edges.UNKNOWN);
            }
            x.light(0, 0, 0);
            night(x, 0, 0, 20, 2, 0);
            clock(x, 3, 5, 1);
            x.light(3, 4, 777);
            night(x, 3, 777, 807, 3, 4);
        });
        edges.sentence(28, "2 how many CELLS burn", x -> {
            Check.snake(x, 0, 6, 6);
            x.mount(0, 0);
            x.bring(0, 0, 36);
            x.fill(0, 0, 12);
            due("none", x.night(0, 2), 0);
            x.light(0, 35, 0);
            due("all", x.night(0, 2), 36);
            x.sweep(0, 1);
            x.lay(0, 35, 0, 1);
            due("one", x.night(0, 2), 1);
        });
    }

    private static void scents() {
        edges.sentence(30, "(from BEGIN to ahead of END), as a SET.", x -> {
            Check.line(x, 0, 3);
            x.mount(0, 0);
            x.bring(0, 0, 1);
            x.bring(0, 7, 2);
            x.lay(0, 1, 0, 0);
            x.lay(0, 0, 7, 0);
            x.lay(0, 2, 7, 0);
            x.light(0, 1, 20);
            int[][] rows = {{0, 0}, {19, 0}, {20, 1}, {29, 1}, {30, 128}, {39, 128}, {40, 0}, {20000, 0}};
            for (int[] row : rows) {
                due("at " + row[0], x.scent(0, row[0]), row[1]);
            }
            x.rate(0, 5);
            x.light(0, 0, 0);
            due("powder 7 at 0", x.scent(0, 0), 128);
            due("powder 0 at 10", x.scent(0, 10), 1);
        });
        edges.sentence(30, "SCENT of a CLOCK at a tick (0 .. 20000). UNKNOWN, OUTSIDE.", x -> {
            clock(x, 0, 1);
            x.light(0, 0, 0);
            due("-1", x.scent(0, -1), Edges.OUTSIDE);
            due("0", x.scent(0, 0), 1);
            due("20000", x.scent(0, 20000), 0);
            due("20001", x.scent(0, 20001), Edges.OUTSIDE);
            for (int wild : Edges.WILD) {
                due("tick " + wild, x.scent(0, wild), Edges.OUTSIDE);
                due("clock " + wild, x.scent(wild, 0), Edges.UNKNOWN);
            }
            due("a clock without cells", x.scent(1, 0), 0);
        });
        edges.sentence(30, "SCENT at a tick: POWDERS of the CELLS that burn then", x -> {
            // Three by three, forth and back: cell 4 is the middle, cells 0, 2, 6, 8 are corners, and 8 is bare.
            Check.snake(x, 0, 3, 3);
            x.mount(0, 0);
            for (int p = 0; p < 8; p++) {
                x.bring(0, p, 1);
                x.rate(p, 60);
                x.lay(0, p, p, 0);
            }
            x.rate(4, 1);
            x.light(0, 4, 5939);
            due("the middle", x.scent(0, 5939), 16);
            due("around it", x.scent(0, 5940), 2 + 8 + 32 + 128);
            due("around it still", x.scent(0, 5999), 2 + 8 + 32 + 128);
            due("corners", x.scent(0, 6000), 1 + 4 + 64);
            due("out", x.scent(0, 6060), 0);
            Check.snake(x, 1, 6, 6);
            x.mount(1, 1);
            x.rate(0, 1);
            x.bring(0, 0, 36);
            x.row(0, 0);
            x.fill(1, 0, 1);
            x.light(1, 35, 0);
            due("of 36 cells the last", x.scent(1, 0), 1);
            due("of 36 cells the farthest", x.scent(1, 10), 1);
            due("behind it", x.scent(1, 11), 0);
        });
    }

    private static void dawns() {
        edges.sentence(31, "DAWN: CELLS that burnt are BARE, their grains ASHES", x -> {
            clock(x, 0, 5, 2);
            clock(x, 1, 3);
            x.light(0, 0, 5999);
            due("dawn", x.dawn(), 2);
            due("burnt", x.grain(0, 1), Edges.NONE);
            due("not burnt", x.grain(0, 3), 0);
            due("not lit", x.grain(1, 0), 0);
            due("ashes", x.weighed(0, 3), 2);
            due("in cells", x.weighed(0, 2), 5);
            x.light(0, 3, 0);
            x.again(0, 4, 0);
            due("the next dawn", x.dawn(), 2);
            due("ashes of both", x.weighed(0, 3), 4);
        });
        edges.sentence(31, "HANDS, LINKS, AGAINS are gone.", x -> {
            clock(x, 0, 2);
            clock(x, 1, 2);
            x.link(0, 0, 1);
            x.again(0, 1, 4);
            due("nothing was lit", x.dawn(), 0);
            due("no links", x.count(2), 0);
            due("no agains", x.count(3), 0);
            x.light(0, 0, 0);
            x.link(0, 1, 1);
            due("both burn", x.dawn(), 4);
            notLit(x, 0);
            notLit(x, 1);
            due("links are gone then", x.count(2), 0);
            x.bring(0, 0, 4);
            x.lay(0, 0, 0, 0);
            notLit(x, 0);
        });
        edges.sentence(31, "DAWN: how many grains burnt.", x -> {
            due("of nothing", x.dawn(), 0);
            for (int c = 0; c < 4; c++) {
                Check.snake(x, 0, 6, 6);
                x.mount(c, 0);
                x.bring(c, c, 36);
                x.row(0, c);
                x.rate(c, 1);
                x.fill(c, 0, 1);
                x.light(c, c, 0);
            }
            due("all that can be", x.dawn(), 144);
            due("ashes", x.weighed(Edges.NONE, 3), 144);
            due("of each", x.weighed(3, 3), 36);
            due("again", x.dawn(), 0);
        });
    }
}
