/** Promises 32 to 38, sentence by sentence: each stands word for word, with a test of its own that goes to its edges. */
public final class BellEdgesTest {
    private static final Edges edges = new Edges();

    public static void main(String[] args) {
        balls();
        heard();
        costs();
        slows();
        gones();
        maybes();
        gonesRefused();
        edges.end(32, 38);
    }

    private static void due(String call, long got, long want) {
        edges.due(call, got, want);
    }

    /** Clock 0: a line of six cells of ten ticks each, lit at 1000 at cell 0; balls hang where told. */
    private static void hung(SmellHours x, int... cells) {
        Check.lineClock(x, 0, 6, 0);
        for (int cell : cells) {
            x.hang(0, cell);
        }
        x.light(0, 0, 1000);
    }

    private static void hear(SmellHours x, int... ticks) {
        x.hush();
        for (int tick : ticks) {
            x.hear(tick);
        }
    }

    private static void balls() {
        edges.sentence(32, "BALLS (12 at most) hang at CELLS of CLOCKS", x -> {
            Check.lineClock(x, 0, 2, 0);
            Check.lineClock(x, 3, 2, 0);
            for (int k = 0; k < 12; k++) {
                due("ball " + k, x.hang(k % 2 * 3, 1), k);
            }
            due("one more", x.hang(0, 1), Edges.FULL);
            due("twelve", x.count(0), 12);
            x.sweep(0, 0);
            x.mount(0, 5);
            due("room again", x.hang(3, 0), 6);
        });
        edges.sentence(32, "A BALL: its number. UNKNOWN, FULL.", x -> {
            Check.lineClock(x, 2, 3, 0);
            due("cell -1", x.hang(2, -1), Edges.UNKNOWN);
            due("cell 3", x.hang(2, 3), Edges.UNKNOWN);
            due("a clock without cells", x.hang(0, 0), Edges.UNKNOWN);
            for (int wild : Edges.WILD) {
                due("cell " + wild, x.hang(2, wild), Edges.UNKNOWN);
                due("clock " + wild, x.hang(wild, 0), Edges.UNKNOWN);
            }
            due("the first", x.hang(2, 2), 0);
            due("the next, at the same cell", x.hang(2, 2), 1);
        });
        edges.sentence(33, "a BALL DROPS when its CELL BEGINS (in THE NIGHT); never, if it does not.", x -> {
            hung(x, 0, 5, 3);
            due("ball 0", x.drops(0), 1000);
            due("ball 1", x.drops(1), 1050);
            due("ball 2", x.drops(2), 1030);
            x.light(0, 4, 0);
            due("in the night as it is now", x.drops(1), 10);
            x.light(0, 4, Edges.NONE);
            due("not lit", x.drops(0), Edges.NONE);
            x.light(0, 0, 0);
            due("at tick 0", x.drops(0), 0);
            x.dawn();
            due("behind dawn", x.drops(0), Edges.NONE);
        });
        edges.sentence(33, "When a BALL DROPS; NONE. UNKNOWN.", x -> {
            due("none hangs", x.drops(0), Edges.UNKNOWN);
            hung(x, 1);
            due("ball -1", x.drops(-1), Edges.UNKNOWN);
            due("ball 0", x.drops(0), 1010);
            due("ball 1", x.drops(1), Edges.UNKNOWN);
            for (int wild : Edges.WILD) {
                due("ball " + wild, x.drops(wild), Edges.UNKNOWN);
            }
            for (int k = 1; k < 12; k++) {
                x.hang(0, 0);
            }
            due("ball 11", x.drops(11), 1000);
            due("ball 12", x.drops(12), Edges.UNKNOWN);
        });
    }

    private static void heard() {
        edges.sentence(34, "A tick (0 .. 20000) was HEARD: how many.", x -> {
            due("-1", x.hear(-1), Edges.OUTSIDE);
            due("20001", x.hear(20001), Edges.OUTSIDE);
            due("0", x.hear(0), 1);
            due("20000", x.hear(20000), 2);
            for (int wild : Edges.WILD) {
                due("tick " + wild, x.hear(wild), Edges.OUTSIDE);
            }
            due("two", x.count(1), 2);
        });
        edges.sentence(34, "OUTSIDE (also below the one ahead), FULL.", x -> {
            due("500", x.hear(500), 1);
            due("499", x.hear(499), Edges.OUTSIDE);
            due("0", x.hear(0), Edges.OUTSIDE);
            due("500 again", x.hear(500), 2);
            due("501", x.hear(501), 3);
            due("500, which is below the one ahead now", x.hear(500), Edges.OUTSIDE);
            due("three", x.hush(), 3);
            due("499, with none ahead", x.hear(499), 1);
            for (int k = 2; k <= 24; k++) {
                x.hear(499 + k);
            }
            due("the last one again, when full", x.hear(523), Edges.FULL);
            due("one below, when full", x.hear(522), Edges.OUTSIDE);
        });
        edges.sentence(34, "HEARD: ticks of a bell, rising (24 at most; not below the one ahead)", x -> {
            for (int k = 1; k <= 24; k++) {
                due("heard " + k, x.hear(100), k);
            }
            due("one more", x.hear(100), Edges.FULL);
            due("one below", x.hear(99), Edges.OUTSIDE);
            due("24", x.hush(), 24);
            due("room again", x.hear(0), 1);
        });
        edges.sentence(35, "Nothing was HEARD: how many ticks were.", x -> {
            due("of none", x.hush(), 0);
            hung(x, 0);
            hear(x, 1000, 1003);
            due("two", x.hush(), 2);
            due("none", x.count(1), 0);
            due("again", x.hush(), 0);
            due("the ball is left out", x.cost(0), 20);
            due("balls stay", x.count(0), 1);
        });
    }

    private static void costs() {
        edges.sentence(36, "a pair costs the size of what is between them, one left out 20; the least sum.", x -> {
            hung(x, 0);
            // Heard at a tick; the cost with the ball that drops at 1000.
            int[][] rows = {{1000, 0}, {1001, 1}, {999, 1}, {1039, 39}, {961, 39}, {1040, 40}, {960, 40}, {1041, 40}, {959, 40},
                {0, 40}, {20000, 40}};
            for (int[] row : rows) {
                hear(x, row[0]);
                due("heard at " + row[0], x.cost(0), row[1]);
            }
        });
        edges.sentence(36, "some of both left out", x -> {
            due("no balls, nothing heard, no cells", x.cost(0), 0);
            hung(x);
            due("no balls, nothing heard", x.cost(0), 0);
            x.hear(1000);
            due("no balls", x.cost(0), 20);
            x.hush();
            x.hang(0, 0);
            due("nothing heard", x.cost(0), 20);
            for (int k = 1; k < 12; k++) {
                x.hang(0, 0);
            }
            due("twelve balls, nothing heard", x.cost(0), 240);
            for (int k = 0; k < 24; k++) {
                x.hear(20000);
            }
            due("all left out", x.cost(0), 720);
            hear(x, 1000, 1000, 1000);
            due("three pairs, nine left out", x.cost(0), 180);
        });
        edges.sentence(36, "one left out 20", x -> {
            hung(x, 1, 3);
            hear(x, 1010, 1030);
            due("none", x.cost(0), 0);
            hear(x, 5, 1010, 1030);
            due("one heard ahead", x.cost(0), 20);
            hear(x, 1010, 1020, 1030);
            due("one heard between", x.cost(0), 20);
            hear(x, 1010, 1030, 2000);
            due("one heard behind", x.cost(0), 20);
            hear(x, 1010);
            due("a ball behind", x.cost(0), 20);
            hear(x, 1030);
            due("a ball ahead", x.cost(0), 20);
            hear(x, 5, 6, 7, 1010, 1030, 2000, 2001);
            due("five heard", x.cost(0), 100);
        });
        edges.sentence(36, "its BALLS' DROPS, rising, and what was HEARD are PAIRED in order", x -> {
            hung(x, 5, 0, 3);
            hear(x, 1001, 1032, 1053);
            due("hung in another order", x.cost(0), 1 + 2 + 3);
            hear(x, 1031, 1031, 1031);
            // 1000, 1030, 1050: 31 and 1 and 19, for a pair is not dearer than both left out.
            due("all pairs", x.cost(0), 51);
            hear(x, 1050, 1050);
            due("the first one is left out", x.cost(0), 20 + 20 + 0);
        });
        edges.sentence(36, "COST. UNKNOWN.", x -> {
            hung(x, 2);
            hear(x, 1013);
            due("7 apart", x.cost(0), 7);
            due("clock -1", x.cost(-1), Edges.UNKNOWN);
            due("clock 4", x.cost(4), Edges.UNKNOWN);
        });
        edges.sentence(36, "COST of a CLOCK", x -> {
            hung(x, 0, 5);
            Check.lineClock(x, 1, 2, 0);
            x.hang(1, 0);
            x.hear(1000);
            due("its own balls alone", x.cost(0), 20);
            due("the other one's do not drop", x.cost(1), 20);
            x.light(1, 0, 1004);
            due("it drops", x.cost(1), 4);
            due("the first clock's as ever", x.cost(0), 20);
            due("a clock without cells", x.cost(3), 20);
            for (int wild : Edges.WILD) {
                due("clock " + wild, x.cost(wild), Edges.UNKNOWN);
            }
        });
    }

    private static void slows() {
        edges.sentence(37, "SLOW: the least d of 0 to 50 with which, all DAMPS being d, COST is least.", x -> {
            hung(x, 1);
            x.rate(0, 60);
            // 60 ticks with damp 0, 90 with damp 50, 75 with 25 and 26 (75.6), 76 with 27.
            int[][] rows = {{1060, 0, 0}, {1059, 0, 1}, {1090, 50, 0}, {1091, 50, 1}, {1075, 25, 0}, {1076, 27, 0}, {5000, 0, 40}};
            for (int[] row : rows) {
                hear(x, row[0]);
                due("heard at " + row[0], x.slow(0, 0), row[1]);
                due("its cost, heard at " + row[0], x.slow(0, 1), row[2]);
            }
        });
        edges.sentence(37, "the least d", x -> {
            hung(x);
            due("no balls", x.slow(0, 0), 0);
            due("no balls, its cost", x.slow(0, 1), 0);
            due("a clock without cells", x.slow(2, 0), 0);
            hear(x, 1, 2);
            due("two heard", x.slow(0, 0), 0);
            due("two heard, the cost", x.slow(0, 1), 40);
            x.hang(0, 1);
            x.rate(0, 1);
            hear(x, 1001);
            due("a tick with every damp", x.slow(0, 0), 0);
        });
        edges.sentence(37, "all DAMPS being d", x -> {
            hung(x, 1);
            x.damp(0, 99, 30);
            hear(x, 1010);
            due("as told", x.cost(0), 3);
            due("slow", x.slow(0, 0), 0);
            due("the night, still", x.burns(0, 1, 0), 1013);
            due("its cost", x.slow(0, 1), 0);
            due("as told, still", x.cost(0), 3);
            Check.lineClock(x, 1, 2, 0);
            x.light(0, 0, 5990);
            x.link(0, 1, 1);
            x.hang(1, 1);
            hear(x, 6014);
            // 5990, 6002 and 6014 with damp 20, in the last hour and behind it, in a clock that another one lights.
            due("of clock 1", x.slow(1, 0), 20);
            due("its cost, of clock 1", x.slow(1, 1), 0);
        });
        edges.sentence(37, "SLOW: what = 0 d, 1 its COST. UNKNOWN, OUTSIDE.", x -> {
            due("what -1", x.slow(0, -1), Edges.OUTSIDE);
            due("what 2", x.slow(0, 2), Edges.OUTSIDE);
            due("clock 4", x.slow(4, 0), Edges.UNKNOWN);
            due("clock -1", x.slow(-1, 1), Edges.UNKNOWN);
            for (int wild : Edges.WILD) {
                due("what " + wild, x.slow(0, wild), Edges.OUTSIDE);
                due("clock " + wild, x.slow(wild, 0), Edges.UNKNOWN);
            }
            due("what 0", x.slow(3, 0), 0);
            due("what 1", x.slow(3, 1), 0);
        });
    }

    private static void gone(String what, SmellHours x, int[] asked, int least, int greatest, int lights) {
        int[] due = {least, greatest, lights};
        for (int k = 0; k < 3; k++) {
            due(what + ", what = " + k, x.gone(0, asked[0], asked[1], asked[2], asked[3], asked[4], k), due[k]);
        }
    }

    private static void gones() {
        edges.sentence(38, "WHEN: the least, the greatest tick at which CELL p is burnt, of lights that are MAYBE.", x -> {
            hung(x);
            gone("one light", x, new int[] {5, 5999, 0, 0, 0}, 60, 60, 1);
            gone("some lights", x, new int[] {5, 5999, 0, 300, 0}, 60, 360, 301);
            x.damp(0, 0, 50);
            // Lit at 59: 74; at 60: 70.
            gone("a later light that is burnt earlier", x, new int[] {0, 5999, 59, 60, 0}, 70, 74, 2);
            gone("none", x, new int[] {0, 69, 59, 60, 0}, Edges.NONE, Edges.NONE, 0);
        });
        edges.sentence(38, "was found OUT at a tick t, burnt up to CELL p; it was lit at some tick from a to b (b - a at most 300) at CELL 0", x -> {
            hung(x);
            gone("301 apart", x, new int[] {0, 5999, 0, 301, 0}, Edges.OUTSIDE, Edges.OUTSIDE, Edges.OUTSIDE);
            gone("300 apart", x, new int[] {0, 5999, 5, 305, 0}, 15, 315, 301);
            gone("none apart", x, new int[] {0, 5999, 5, 5, 0}, 15, 15, 1);
            gone("b below a", x, new int[] {0, 5999, 5, 4, 0}, Edges.OUTSIDE, Edges.OUTSIDE, Edges.OUTSIDE);
            x.light(0, 3, 777);
            gone("its hand is nothing to it", x, new int[] {5, 5999, 5, 5, 0}, 65, 65, 1);
            gone("found out at 65, burnt up to cell 5", x, new int[] {5, 65, 0, 300, 0}, 60, 65, 6);
            gone("found out at 65, burnt up to cell 4", x, new int[] {4, 65, 0, 300, 0}, 50, 65, 16);
        });
        edges.sentence(38, "and went CELL by CELL along its PATH", x -> {
            Check.snake(x, 0, 2, 2);
            x.mount(0, 0);
            x.bring(0, 0, 4);
            x.fill(0, 0, 1);
            gone("no jump", x, new int[] {3, 5999, 0, 0, 0}, 40, 40, 1);
            gone("cell 0", x, new int[] {0, 5999, 0, 0, 0}, 10, 10, 1);
        });
        edges.sentence(38, "GONE: a CLOCK, all of whose CELLS up to p have grains", x -> {
            hung(x);
            x.sweep(0, 0);
            x.lay(0, 0, 0, 0);
            x.lay(0, 1, 0, 0);
            x.lay(0, 5, 0, 0);
            gone("p 1", x, new int[] {1, 5999, 0, 0, 0}, 20, 20, 1);
            gone("p 2 is bare", x, new int[] {2, 5999, 0, 0, 0}, Edges.NOT, Edges.NOT, Edges.NOT);
            gone("p 5, behind bare ones", x, new int[] {5, 5999, 0, 0, 0}, Edges.NOT, Edges.NOT, Edges.NOT);
            x.light(0, 0, 0);
            x.dawn();
            gone("p 0 is bare", x, new int[] {0, 5999, 0, 0, 0}, Edges.NOT, Edges.NOT, Edges.NOT);
        });
    }

    private static void maybes() {
        edges.sentence(38, "A light is MAYBE, if CELL p is burnt at t or ahead of it", x -> {
            hung(x);
            gone("at t", x, new int[] {1, 120, 100, 100, 0}, 120, 120, 1);
            gone("a tick later", x, new int[] {1, 119, 100, 100, 0}, Edges.NONE, Edges.NONE, 0);
            gone("some of them", x, new int[] {1, 120, 90, 130, 0}, 110, 120, 11);
            gone("behind the last tick of a night", x, new int[] {1, 5999, 5979, 5980, 0}, 5999, 5999, 1);
            gone("t 0", x, new int[] {0, 0, 0, 0, 0}, Edges.NONE, Edges.NONE, 0);
        });
        edges.sentence(38, "and each BALL at CELLS up to p DROPPED (so)", x -> {
            hung(x, 2);
            gone("a ball behind p", x, new int[] {1, 5999, 100, 100, 60}, 120, 120, 1);
            gone("a ball at p, nothing heard", x, new int[] {2, 5999, 100, 100, 60}, Edges.NONE, Edges.NONE, 0);
            x.hear(120);
            gone("a ball at p, heard", x, new int[] {2, 5999, 100, 101, 0}, 130, 130, 1);
            x.hang(0, 0);
            gone("another at cell 0, not heard", x, new int[] {2, 5999, 100, 100, 0}, Edges.NONE, Edges.NONE, 0);
            hear(x, 100, 120);
            gone("both heard", x, new int[] {2, 5999, 100, 100, 0}, 130, 130, 1);
            Check.lineClock(x, 1, 2, 0);
            x.hang(1, 0);
            gone("another clock's ball", x, new int[] {2, 5999, 100, 100, 0}, 130, 130, 1);
        });
        edges.sentence(38, "within WIDTH (0 .. 60) of some tick HEARD.", x -> {
            hung(x, 0);
            hear(x, 100, 400);
            gone("0", x, new int[] {0, 5999, 50, 350, 0}, 110, 110, 1);
            gone("1", x, new int[] {0, 5999, 50, 350, 1}, 109, 111, 3);
            gone("60", x, new int[] {0, 5999, 50, 350, 60}, 60, 360, 111 + 11);
            gone("of the later one alone", x, new int[] {0, 5999, 200, 500, 60}, 350, 470, 121);
            gone("-1", x, new int[] {0, 5999, 50, 350, -1}, Edges.OUTSIDE, Edges.OUTSIDE, Edges.OUTSIDE);
            gone("61", x, new int[] {0, 5999, 50, 350, 61}, Edges.OUTSIDE, Edges.OUTSIDE, Edges.OUTSIDE);
        });
    }

    private static void gonesRefused() {
        edges.sentence(38, "OUTSIDE (t, a, b 0 .. 5999; b below a; above 300 apart; WIDTH; what); NOT: a CELL up to p is BARE.", x -> {
            hung(x);
            due("t -1", x.gone(0, 0, -1, 0, 0, 0, 2), Edges.OUTSIDE);
            due("t 6000", x.gone(0, 0, 6000, 0, 0, 0, 2), Edges.OUTSIDE);
            due("a -1", x.gone(0, 0, 0, -1, 0, 0, 2), Edges.OUTSIDE);
            due("both 6000", x.gone(0, 0, 0, 6000, 6000, 0, 2), Edges.OUTSIDE);
            due("b 6000", x.gone(0, 0, 0, 5999, 6000, 0, 2), Edges.OUTSIDE);
            due("all at their least", x.gone(0, 0, 0, 0, 0, 0, 2), 0);
            due("all at their greatest", x.gone(0, 5, 5999, 5999, 5999, 60, 2), 0);
            due("what -1", x.gone(0, 0, 0, 0, 0, 0, -1), Edges.OUTSIDE);
            due("what 3", x.gone(0, 0, 0, 0, 0, 0, 3), Edges.OUTSIDE);
            for (int wild : Edges.WILD) {
                due("t " + wild, x.gone(0, 0, wild, 0, 0, 0, 2), Edges.OUTSIDE);
                due("a " + wild, x.gone(0, 0, 0, wild, 0, 0, 2), Edges.OUTSIDE);
                due("b " + wild, x.gone(0, 0, 0, 0, wild, 0, 2), Edges.OUTSIDE);
                due("a and b " + wild, x.gone(0, 0, 0, wild, wild, 0, 2), Edges.OUTSIDE);
                due("width " + wild, x.gone(0, 0, 0, 0, 0, wild, 2), Edges.OUTSIDE);
                due("what " + wild, x.gone(0, 0, 0, 0, 0, 0, wild), Edges.OUTSIDE);
            }
            due("far apart", x.gone(0, 0, 0, Integer.MIN_VALUE, Integer.MAX_VALUE, 0, 2), Edges.OUTSIDE);
            x.sweep(0, 0);
            x.lay(0, 0, 0, 0);
            due("cell 1 is bare", x.gone(0, 1, 5999, 0, 0, 0, 2), Edges.NOT);
            due("cell 1 is bare, b below a", x.gone(0, 1, 5999, 1, 0, 0, 2), Edges.OUTSIDE);
            due("up to cell 0", x.gone(0, 0, 5999, 0, 0, 0, 2), 1);
        });
        edges.sentence(38, "UNKNOWN (CLOCK, CELL p)", x -> {
            hung(x);
            due("p -1", x.gone(0, -1, 0, 0, 0, 0, 2), Edges.UNKNOWN);
            due("p 6", x.gone(0, 6, 0, 0, 0, 0, 2), Edges.UNKNOWN);
            due("p 5", x.gone(0, 5, 0, 0, 0, 0, 2), 0);
            due("a clock without cells", x.gone(1, 0, 0, 0, 0, 0, 2), Edges.UNKNOWN);
            for (int wild : Edges.WILD) {
                due("clock " + wild, x.gone(wild, 0, 0, 0, 0, 0, 2), Edges.UNKNOWN);
                due("p " + wild, x.gone(0, wild, 0, 0, 0, 0, 2), Edges.UNKNOWN);
            }
        });
        edges.sentence(38, "WHEN: what = 0 the least, 1 the greatest tick, 2 how many lights are MAYBE; NONE of 0, 1: none is.", x -> {
            hung(x, 0);
            gone("none is", x, new int[] {5, 5999, 0, 300, 60}, Edges.NONE, Edges.NONE, 0);
            Check.snake(x, 1, 6, 6);
            x.sweep(0, 0);
            x.mount(0, 1);
            x.bring(0, 0, 36);
            x.rate(0, 60);
            x.damp(0, 99, 50);
            x.fill(0, 0, 12);
            for (int i = 0; i < 36; i++) {
                x.lay(0, i, 0, 0);
            }
            gone("all 36 cells", x, new int[] {35, 5999, 2600, 2900, 0}, 5840, 5999, 160);
        });
    }
}
