/** Promises 1 to 10, sentence by sentence: each stands word for word, with a test of its own that goes to its edges. */
public final class SealEdgesTest {
    private static final Edges edges = new Edges();

    public static void main(String[] args) {
        atFirst();
        boards();
        paths();
        walls();
        kinds();
        search();
        looksAndBound();
        drawRefused();
        tells();
        edges.end(1, 10);
    }

    private static void due(String call, long got, long want) {
        edges.due(call, got, want);
    }

    private static void go(SmellHours x, int s, int... squares) {
        for (int square : squares) {
            x.go(s, square);
        }
    }

    private static void path(SmellHours x, int s, int... squares) {
        due("length", x.told(s, 3), squares.length);
        for (int i = 0; i < squares.length; i++) {
            due("at(" + s + ", " + i + ")", x.at(s, i), squares[i]);
        }
        due("at the end", x.at(s, squares.length), Edges.NONE);
    }

    private static void atFirst() {
        edges.sentence(1, "No PATHS, no grains; all as at first.", SealEdgesTest::noPathsNoGrains);
        edges.sentence(1, "(1 .. 6 each; 1 and 1 at first)", x -> {
            for (int s = 0; s < 6; s++) {
                due("w", x.told(s, 0), 1);
                due("h", x.told(s, 1), 1);
                due("square 1", x.go(s, 1), Edges.OUTSIDE);
                due("square 0", x.go(s, 0), 1);
            }
        });
        edges.sentence(1, "some are BARRED (none at first)", x -> {
            for (int s = 0; s < 6; s++) {
                due("barred", x.told(s, 2), 0);
                due("square 0 is not barred", x.bar(s, 0, false), 0);
            }
        });
        edges.sentence(1, "A PATH of a SEAL (no SQUARES at first)", SealEdgesTest::emptyPath);
        edges.sentence(1, "(none at first)", x -> {
            for (int c = 0; c < 4; c++) {
                due("no cell 0", x.grain(c, 0), Edges.UNKNOWN);
            }
            due("none is mounted", x.count(4), 0);
        });
    }

    /** What one object is told is nothing to another one. */
    private static void noPathsNoGrains(SmellHours x) {
        Check.lineClock(x, 0, 3, 0);
        x.bring(1, 1, 5);
        x.light(0, 0, 1);
        SmellHours other = new SmellHours();
        for (int s = 0; s < 6; s++) {
            due("length", other.told(s, 3), 0);
        }
        for (int c = 0; c < 4; c++) {
            due("grain", other.grain(c, 0), Edges.UNKNOWN);
            due("lit", other.night(c, 0), Edges.NONE);
        }
        for (int what = 0; what < 4; what++) {
            due("weighed", other.weighed(Edges.NONE, what), 0);
        }
        due("the first one has its own", x.weighed(Edges.NONE, 0), 8);
    }

    private static void emptyPath(SmellHours x) {
        due("length", x.told(0, 3), 0);
        due("sound", x.told(0, 4), 1);
        due("alike by all", x.told(0, 5), 14);
        due("pairs", x.told(0, 6), 0);
        due("at 0", x.at(0, 0), Edges.NONE);
        due("wipe", x.wipe(0), 0);
        due("mount", x.mount(0, 0), Edges.NOT);
    }

    private static void boards() {
        edges.sentence(2, "SEALS 0 to 5", SealEdgesTest::sealsThatAre);
        edges.sentence(2, "are boards of w times h SQUARES (1 .. 6 each; ", x -> {
            int[] sides = {1, 6};
            for (int w : sides) {
                for (int h : sides) {
                    due("board(0, " + w + ", " + h + ")", x.board(0, w, h), w * h);
                    due("the last square", x.bar(0, w * h - 1, true), 0);
                    due("one more", x.bar(0, w * h, true), Edges.OUTSIDE);
                }
            }
            int[] outside = {0, 7, -1, Integer.MIN_VALUE, Integer.MAX_VALUE, 65536};
            for (int side : outside) {
                due("board(0, " + side + ", 1)", x.board(0, side, 1), Edges.OUTSIDE);
                due("board(0, 1, " + side + ")", x.board(0, 1, side), Edges.OUTSIDE);
                due("board(0, " + side + ", " + side + ")", x.board(0, side, side), Edges.OUTSIDE);
            }
        });
        edges.sentence(2, "SQUARE (x, y) has the number y w and x", x -> {
            x.board(0, 2, 3);
            due("(0, 0)", x.go(0, 0), 1);
            due("(0, 1) is 2", x.go(0, 2), 2);
            due("(1, 1) is 3", x.go(0, 3), 3);
            due("(1, 2) is 5", x.go(0, 5), 4);
            due("(0, 2) is 4", x.go(0, 4), 5);
        });
        edges.sentence(2, "A SEAL becomes a board of w times h, none BARRED, without a PATH: w h. UNKNOWN, OUTSIDE.", x -> {
            x.board(3, 3, 3);
            x.board(4, 3, 3);
            x.bar(3, 8, true);
            x.bar(4, 8, true);
            go(x, 3, 0, 1);
            due("the same board", x.board(3, 3, 3), 9);
            due("none barred", x.told(3, 2), 0);
            due("no path", x.told(3, 3), 0);
            due("a square of the path ahead can be barred", x.bar(3, 1, true), 0);
            due("another seal's bars stay", x.told(4, 2), 1);
            due("no seal", x.board(6, 3, 3), Edges.UNKNOWN);
            due("no rows", x.board(4, 3, 0), Edges.OUTSIDE);
            due("refused, the board stays", x.told(4, 2), 1);
        });
        edges.sentence(3, "A SQUARE is BARRED, or not: what it was (1, 0).", x -> {
            x.board(0, 6, 6);
            int[] squares = {0, 35};
            for (int square : squares) {
                due("not barred, to be not barred", x.bar(0, square, false), 0);
                due("not barred, to be barred", x.bar(0, square, true), 0);
                due("barred, to be barred", x.bar(0, square, true), 1);
                due("barred, to be not barred", x.bar(0, square, false), 1);
            }
            due("none is left", x.told(0, 2), 0);
        });
        edges.sentence(3, "UNKNOWN, OUTSIDE; NOT: it is in the PATH.", SealEdgesTest::barsRefused);
    }

    private static void sealsThatAre(SmellHours x) {
        int[] are = {0, 5};
        for (int s : are) {
            due("board", x.board(s, 2, 2), 4);
            due("bar", x.bar(s, 3, true), 0);
            due("go", x.go(s, 0), 1);
            due("told", x.told(s, 3), 1);
            due("at", x.at(s, 0), 0);
            due("draw", x.draw(s, 0, 1, 2, false, 0), 2);
            due("wipe", x.wipe(s), 2);
        }
        int[] none = {-1, 6, Integer.MIN_VALUE, Integer.MAX_VALUE};
        for (int s : none) {
            due("board " + s, x.board(s, 2, 2), Edges.UNKNOWN);
            due("bar " + s, x.bar(s, 0, true), Edges.UNKNOWN);
            due("go " + s, x.go(s, 0), Edges.UNKNOWN);
            due("wipe " + s, x.wipe(s), Edges.UNKNOWN);
            due("draw " + s, x.draw(s, 0, 0, 1, false, 0), Edges.UNKNOWN);
            due("told " + s, x.told(s, 0), Edges.UNKNOWN);
            due("at " + s, x.at(s, 0), Edges.UNKNOWN);
            due("mount " + s, x.mount(0, s), Edges.UNKNOWN);
        }
    }

    private static void barsRefused(SmellHours x) {
        x.board(0, 2, 2);
        x.go(0, 1);
        x.go(0, 0);
        due("the path's first", x.bar(0, 1, true), Edges.NOT);
        due("the path's last", x.bar(0, 0, true), Edges.NOT);
        due("to be not barred", x.bar(0, 0, false), Edges.NOT);
        due("beside the path", x.bar(0, 2, true), 0);
        due("square -1", x.bar(0, -1, true), Edges.OUTSIDE);
        due("square 4", x.bar(0, 4, true), Edges.OUTSIDE);
        x.wipe(0);
        due("wiped, it can be barred", x.bar(0, 0, true), 0);
        x.board(0, 1, 1);
        due("square 2 is no longer there", x.bar(0, 2, true), Edges.OUTSIDE);
    }

    private static void paths() {
        edges.sentence(4, "NEIGHBOURS: SQUARES one beside the other, by x or by y.", x -> {
            x.board(0, 3, 2);
            x.go(0, 2);
            due("from the end of a row to the next one's first", x.go(0, 3), Edges.NOT);
            due("two apart", x.go(0, 0), Edges.NOT);
            due("aslant", x.go(0, 4), Edges.NOT);
            due("by y", x.go(0, 5), 2);
            due("by x", x.go(0, 4), 3);
            x.wipe(0);
            x.go(0, 3);
            due("from a row's first to the end of the one ahead", x.go(0, 2), Edges.NOT);
            x.board(1, 6, 1);
            x.go(1, 0);
            due("around the board by x", x.go(1, 5), Edges.NOT);
            x.board(1, 1, 6);
            x.go(1, 5);
            due("around the board by y", x.go(1, 0), Edges.NOT);
        });
        edges.sentence(4, "a row of SQUARES that are not BARRED", x -> {
            x.board(0, 2, 1);
            x.bar(0, 0, true);
            due("the first one", x.go(0, 0), Edges.NOT);
            due("another one", x.go(0, 1), 1);
            due("a later one", x.go(0, 0), Edges.NOT);
            x.bar(0, 0, false);
            due("no longer barred", x.go(0, 0), 2);
        });
        edges.sentence(4, "no two alike", x -> {
            x.board(0, 2, 2);
            go(x, 0, 0);
            due("the last one again", x.go(0, 0), Edges.NOT);
            go(x, 0, 1, 3, 2);
            due("all round, to the first one", x.go(0, 0), Edges.NOT);
            due("back", x.go(0, 3), Edges.NOT);
            path(x, 0, 0, 1, 3, 2);
        });
        edges.sentence(4, "each a NEIGHBOUR of the one ahead", x -> {
            x.board(0, 2, 2);
            due("the first one may be any", x.go(0, 3), 1);
            go(x, 0, 1);
            due("of an earlier one alone", x.go(0, 2), Edges.NOT);
            due("of the last one", x.go(0, 0), 3);
        });
        edges.sentence(4, "LENGTH: how many.", x -> {
            Check.snake(x, 0, 6, 6);
            due("all squares", x.told(0, 3), 36);
            due("none is left", x.go(0, 30), Edges.NOT);
            x.board(1, 1, 1);
            due("one", x.go(1, 0), 1);
            due("no other one", x.go(1, 0), Edges.NOT);
        });
        edges.sentence(4, "A SQUARE more at the end of the PATH: LENGTH. UNKNOWN, OUTSIDE; NOT: it cannot follow.", x -> {
            x.board(0, 2, 3);
            due("seal -1", x.go(-1, 0), Edges.UNKNOWN);
            due("seal 6", x.go(6, 0), Edges.UNKNOWN);
            due("square -1", x.go(0, -1), Edges.OUTSIDE);
            due("square 6", x.go(0, 6), Edges.OUTSIDE);
            due("the last square", x.go(0, 5), 1);
            for (int wild : Edges.WILD) {
                due("square " + wild, x.go(0, wild), Edges.OUTSIDE);
            }
            due("it cannot follow", x.go(0, 0), Edges.NOT);
            path(x, 0, 5);
            due("one more", x.go(0, 3), 2);
            path(x, 0, 5, 3);
        });
        edges.sentence(5, "The PATH has no SQUARES: its LENGTH ahead. UNKNOWN.", x -> {
            Check.snake(x, 5, 6, 6);
            due("of 36", x.wipe(5), 36);
            due("of none", x.wipe(5), 0);
            due("it begins anywhere then", x.go(5, 35), 1);
            due("with what was in it", x.go(5, 34), 2);
            due("seal -1", x.wipe(-1), Edges.UNKNOWN);
            due("seal 6", x.wipe(6), Edges.UNKNOWN);
            due("of two", x.wipe(5), 2);
        });
    }

    private static void walls() {
        edges.sentence(9, "Its WALLS are SOUND, if no two of it that are not next to one another in it are NEIGHBOURS.", x -> {
            x.board(0, 2, 2);
            go(x, 0, 0, 1, 3);
            due("a bend", x.told(0, 4), 1);
            go(x, 0, 2);
            due("its end beside its first", x.told(0, 4), 0);
            x.board(0, 3, 3);
            go(x, 0, 0, 3, 6, 7, 8, 5, 2);
            due("around a gap", x.told(0, 4), 1);
            go(x, 0, 1);
            due("into the gap", x.told(0, 4), 0);
        });
        edges.sentence(9, "6 how many pairs of its SQUARES not next to one another in it are NEIGHBOURS. UNKNOWN, OUTSIDE.", x -> {
            x.board(0, 3, 3);
            go(x, 0, 0, 3, 6, 7, 8, 5, 2);
            due("none", x.told(0, 6), 0);
            go(x, 0, 1);
            due("0 and 1", x.told(0, 6), 1);
            go(x, 0, 4);
            due("4 and 3, 5, 7, too", x.told(0, 6), 4);
            Check.line(x, 1, 6);
            due("a line", x.told(1, 6), 0);
            Check.snake(x, 2, 6, 6);
            due("60 of the board, less 35", x.told(2, 6), 25);
            x.wipe(2);
            go(x, 2, 14);
            due("one square", x.told(2, 6), 0);
            due("no seal", x.told(6, 6), Edges.UNKNOWN);
            due("nothing more is told", x.told(2, 7), Edges.OUTSIDE);
        });
    }

    private static void kinds() {
        edges.sentence(9, "Turned over by KIND 1 (x, y) becomes (w - 1 - x, y)", x -> {
            x.board(0, 3, 2);
            go(x, 0, 0, 1, 2);
            due("a row of three", x.told(0, 5), 2);
            x.wipe(0);
            go(x, 0, 4);
            due("the middle one", x.told(0, 5), 2);
            x.wipe(0);
            go(x, 0, 4, 5);
            due("two of three", x.told(0, 5), 0);
        });
        edges.sentence(9, "by 2 (x, h - 1 - y)", x -> {
            x.board(0, 2, 3);
            go(x, 0, 1, 3, 5);
            due("a column of three", x.told(0, 5), 4);
            x.wipe(0);
            go(x, 0, 2);
            due("the middle one", x.told(0, 5), 4);
            x.wipe(0);
            go(x, 0, 0, 2);
            due("two of three", x.told(0, 5), 0);
        });
        edges.sentence(9, "by 3 (w - 1 - x, h - 1 - y)", x -> {
            x.board(0, 3, 2);
            go(x, 0, 0, 1, 4, 5);
            due("a stair", x.told(0, 5), 8);
            x.board(1, 3, 3);
            go(x, 1, 4);
            due("the middle of all", x.told(1, 5), 14);
            x.wipe(1);
            go(x, 1, 0, 1, 4, 7);
            due("three of five", x.told(1, 5), 0);
            go(x, 1, 8);
            due("all five", x.told(1, 5), 8);
        });
        edges.sentence(9, "a PATH is ALIKE by a KIND, if turned over so it has the same SQUARES.", x -> {
            x.board(0, 1, 1);
            go(x, 0, 0);
            due("the only square", x.told(0, 5), 14);
            x.board(1, 1, 3);
            go(x, 1, 0);
            due("of one column, by 1", x.told(1, 5), 2);
            x.board(2, 3, 1);
            go(x, 2, 0);
            due("of one row, by 2", x.told(2, 5), 4);
            Check.snake(x, 3, 3, 2);
            due("all squares, in another row", x.told(3, 5), 14);
        });
    }

    private static void search() {
        edges.sentence(6, "DRAWN: of PATHS from SQUARE a to b with LENGTH n, SOUND if that is asked, ALIKE by a KIND (0: as it may be)",
            SealEdgesTest::drawnAsAsked);
        edges.sentence(6, "the first by numbers of SQUARES, one after the other.", x -> {
            x.board(0, 3, 3);
            due("4 to 0", x.draw(0, 4, 0, 3, false, 0), 3);
            path(x, 0, 4, 1, 0);
            due("4 to 8", x.draw(0, 4, 8, 3, false, 0), 3);
            path(x, 0, 4, 5, 8);
            due("8 to 4", x.draw(0, 8, 4, 3, false, 0), 3);
            path(x, 0, 8, 5, 4);
        });
        // From 4: 1 (0, 2), 3 (0, 6), 5 (2, 8).
        edges.sentence(6, "They are sought SQUARE by SQUARE, from a on: NEIGHBOURS of the last one by numbers", x -> {
            x.board(0, 3, 3);
            due("4 to 8", x.draw(0, 4, 8, 3, false, 0), 3);
            due("looks", x.looks(), 9);
        });
        edges.sentence(6, "each that is not BARRED, not in the PATH yet", x -> {
            x.board(0, 3, 3);
            x.bar(0, 1, true);
            due("4 to 0", x.draw(0, 4, 0, 3, false, 0), 3);
            due("looks 3, 0", x.looks(), 2);
            path(x, 0, 4, 3, 0);
            x.board(1, 3, 1);
            due("a line", x.draw(1, 0, 2, 3, false, 0), 3);
            due("looks 1, 2", x.looks(), 2);
        });
        edges.sentence(6, "and (if SOUND is asked) has no NEIGHBOUR in the PATH but the last one, is a LOOK", x -> {
            x.board(0, 2, 2);
            due("sound", x.draw(0, 0, 2, 4, true, 0), Edges.NOT);
            due("looks 1, 3, and 2 ahead of its time", x.looks(), 3);
            due("not asked", x.draw(0, 0, 2, 4, false, 0), 4);
            due("looks 1, 3, 2", x.looks(), 3);
            due("a corner", x.draw(0, 0, 3, 3, true, 0), 3);
            path(x, 0, 0, 1, 3);
        });
        edges.sentence(6, "and is gone on from, if the PATH has fewer than n with it", x -> {
            x.board(0, 6, 1);
            due("two", x.draw(0, 2, 5, 2, false, 0), Edges.NOT);
            due("looks 1, 3", x.looks(), 2);
            due("three", x.draw(0, 2, 5, 3, false, 0), Edges.NOT);
            due("looks 1, 0, 3, 4", x.looks(), 4);
            due("four", x.draw(0, 2, 5, 4, false, 0), 4);
            due("looks 1, 0, 3, 4, 5", x.looks(), 5);
        });
        edges.sentence(6, "and it is not b.", x -> {
            x.board(0, 6, 1);
            due("b comes too early", x.draw(0, 0, 1, 3, false, 0), Edges.NOT);
            due("looks 1", x.looks(), 1);
            x.board(1, 3, 2);
            // 1, 2, 5 (b, with four); 4 (with three), 3, 5 (b, with four); 3, 4, 1, 5.
            due("b within", x.draw(1, 0, 5, 6, false, 0), 6);
            path(x, 1, 0, 3, 4, 1, 2, 5);
            due("looks", x.looks(), 11);
        });
        edges.sentence(6, "The first PATH that ends so with n SQUARES, at b, and is as asked is it.", x -> {
            x.board(0, 3, 3);
            due("any", x.draw(0, 0, 2, 5, false, 0), 5);
            path(x, 0, 0, 1, 4, 5, 2);
            due("alike by 1", x.draw(0, 0, 2, 5, false, 1), 5);
            path(x, 0, 0, 3, 4, 5, 2);
            due("alike by 2, which 0 to 2 in five cannot be", x.draw(0, 0, 2, 5, false, 2), Edges.NOT);
            x.board(1, 3, 1);
            due("two of three alike by 1", x.draw(1, 0, 1, 2, false, 1), Edges.NOT);
            due("looks 1", x.looks(), 1);
            due("of one row, alike by 2", x.draw(1, 0, 1, 2, false, 2), 2);
            due("of one row, by 3", x.draw(1, 0, 1, 2, false, 3), Edges.NOT);
            due("all three, by 3", x.draw(1, 0, 2, 3, true, 3), 3);
        });
        edges.sentence(6, "(LENGTH 1: a alone, if it is b; ", SealEdgesTest::lengthOne);
        edges.sentence(6, "with b like a and n above 1 there is none; no LOOK in both.)", x -> {
            x.board(0, 3, 3);
            for (int n = 2; n <= 9; n++) {
                x.draw(0, 0, 1, 2, false, 0);
                due("looks ahead", x.looks(), 1);
                due("n " + n, x.draw(0, 4, 4, n, n % 2 == 0, n % 4), Edges.NOT);
                due("no look", x.looks(), 0);
            }
            path(x, 0, 0, 1);
        });
    }

    /** Corner to corner of three by three: all that is asked is so of the path that is drawn. */
    private static void drawnAsAsked(SmellHours x) {
        x.board(0, 3, 3);
        int drawn = 0;
        for (int n = 3; n <= 9; n++) {
            for (int kind = 0; kind <= 3; kind++) {
                for (int b = 2; b <= 8; b += 6) {
                    boolean sound = (n + kind) % 2 == 0;
                    int answer = x.draw(0, 0, b, n, sound, kind);
                    if (answer == Edges.NOT) {
                        continue;
                    }
                    drawn++;
                    String path = "0 to " + b + ", " + n + " squares, kind " + kind;
                    due(path, answer, n);
                    due(path + ", length", x.told(0, 3), n);
                    due(path + ", its first", x.at(0, 0), 0);
                    due(path + ", its last", x.at(0, n - 1), b);
                    due(path + ", sound", sound ? x.told(0, 4) : 1, 1);
                    due(path + ", alike", kind == 0 ? 1 : x.told(0, 5) >> kind & 1, 1);
                }
            }
        }
        due("drawn", drawn, 13);
    }

    private static void lengthOne(SmellHours x) {
        x.board(0, 3, 3);
        for (int square = 0; square < 9; square++) {
            x.draw(0, 0, 1, 2, false, 0);
            due("alone", x.draw(0, square, square, 1, true, 0), 1);
            path(x, 0, square);
            due("no look", x.looks(), 0);
        }
        x.draw(0, 0, 1, 2, false, 0);
        due("b is another one", x.draw(0, 0, 1, 1, false, 0), Edges.NOT);
        due("no look", x.looks(), 0);
        due("3 by 2", x.draw(0, 3, 3, 1, false, 2), 1);
        due("3 by 1", x.draw(0, 3, 3, 1, false, 1), Edges.NOT);
        due("3 by 3", x.draw(0, 3, 3, 1, false, 3), Edges.NOT);
        due("4 by 3", x.draw(0, 4, 4, 1, false, 3), 1);
        path(x, 0, 4);
    }

    private static void looksAndBound() {
        edges.sentence(6, "Where LOOKS would be above BOUND (100 .. 20000; 5000 at first), the search is SPENT.", x -> {
            x.board(0, 6, 6);
            // Corners aslant have one colour, so there is no path of all 36, and very many to be looked at.
            due("at first", x.draw(0, 0, 35, 36, false, 0), Edges.SPENT);
            due("looks", x.looks(), 5000);
            x.bound(20000);
            due("with the greatest", x.draw(0, 0, 35, 36, false, 0), Edges.SPENT);
            due("its looks", x.looks(), 20000);
            x.bound(100);
            due("with the least", x.draw(0, 0, 35, 36, false, 0), Edges.SPENT);
            due("the looks of that", x.looks(), 100);
        });
        edges.sentence(6, "Where LOOKS would be above BOUND", x -> {
            x.board(0, 4, 4);
            x.bound(135);
            due("all looked at, just within it", x.draw(0, 0, 3, 16, true, 0), Edges.NOT);
            due("looks", x.looks(), 135);
            x.bound(134);
            due("one too many", x.draw(0, 0, 3, 16, true, 0), Edges.SPENT);
            due("its looks", x.looks(), 134);
        });
        edges.sentence(6, "SPENT (the PATH stays).", SealEdgesTest::spentAtTheGoal);
        edges.sentence(7, "LOOKS of the latest draw() that was not UNKNOWN or OUTSIDE; 0.", x -> {
            due("no draw yet", x.looks(), 0);
            x.board(0, 3, 1);
            due("refused", x.draw(0, 0, 3, 2, false, 0), Edges.OUTSIDE);
            due("no draw that counts yet", x.looks(), 0);
            due("found", x.draw(0, 0, 2, 3, false, 0), 3);
            due("of that", x.looks(), 2);
            due("unknown", x.draw(6, 0, 2, 3, false, 0), Edges.UNKNOWN);
            due("outside", x.draw(0, 0, 2, 4, false, 0), Edges.OUTSIDE);
            due("still of that", x.looks(), 2);
            due("not found", x.draw(0, 1, 0, 3, false, 0), Edges.NOT);
            due("looks 0, and 2, which is not gone on from", x.looks(), 2);
            due("not found anew", x.draw(0, 0, 1, 3, false, 0), Edges.NOT);
            due("of that one", x.looks(), 1);
            x.wipe(0);
            x.bar(0, 2, true);
            due("barred", x.draw(0, 0, 2, 3, false, 0), Edges.NOT);
            due("none", x.looks(), 0);
            x.board(0, 2, 2);
            due("another board is nothing to it", x.looks(), 0);
        });
        edges.sentence(8, "BOUND becomes v: what it was. OUTSIDE.", x -> {
            due("99", x.bound(99), Edges.OUTSIDE);
            due("20001", x.bound(20001), Edges.OUTSIDE);
            for (int wild : Edges.WILD) {
                boolean isWithin = wild >= 100 && wild <= 20000;
                due("bound(" + wild + ")", isWithin ? 0 : x.bound(wild), isWithin ? 0 : Edges.OUTSIDE);
            }
            due("5000 still", x.bound(100), 5000);
            due("100", x.bound(20000), 100);
            due("20000", x.bound(20000), 20000);
        });
    }

    /** A path that takes some looks is found with a bound of just as many, and not with one less. */
    private static void spentAtTheGoal(SmellHours x) {
        x.board(0, 5, 5);
        due("found", x.draw(0, 0, 4, 17, true, 0), 17);
        int looks = x.looks();
        due("more looks than the least bound", looks > 100 ? 1 : 0, 1);
        x.wipe(0);
        x.bound(looks);
        due("at the bound", x.draw(0, 0, 4, 17, true, 0), 17);
        x.wipe(0);
        go(x, 0, 24, 19);
        x.bound(looks - 1);
        due("spent", x.draw(0, 0, 4, 17, true, 0), Edges.SPENT);
        due("looks", x.looks(), looks - 1);
        path(x, 0, 24, 19);
        due("the path can go on", x.go(0, 14), 3);
        due("squares that were looked at are free", x.go(0, 13), 4);
        due("and can be barred", x.bar(0, 0, true), 0);
    }

    private static void drawRefused() {
        edges.sentence(6, "UNKNOWN, OUTSIDE (also n 1 .. w h, KIND 0 .. 3)", x -> {
            x.board(0, 3, 2);
            due("no seal", x.draw(6, 0, 0, 1, false, 0), Edges.UNKNOWN);
            due("no seal, no kind", x.draw(-1, 0, 0, 1, false, 4), Edges.UNKNOWN);
            due("n 0", x.draw(0, 0, 0, 0, false, 0), Edges.OUTSIDE);
            due("n 7", x.draw(0, 0, 1, 7, false, 0), Edges.OUTSIDE);
            due("n 1", x.draw(0, 0, 0, 1, false, 0), 1);
            due("n 6", x.draw(0, 0, 3, 6, false, 0), 6);
            due("kind -1", x.draw(0, 0, 3, 6, false, -1), Edges.OUTSIDE);
            due("kind 4", x.draw(0, 0, 3, 6, false, 4), Edges.OUTSIDE);
            due("kind 3", x.draw(0, 0, 3, 6, false, 3), 6);
            int[] outside = {-1, 6, Integer.MIN_VALUE, Integer.MAX_VALUE};
            for (int square : outside) {
                due("a " + square, x.draw(0, square, 0, 2, false, 0), Edges.OUTSIDE);
                due("b " + square, x.draw(0, 0, square, 2, false, 0), Edges.OUTSIDE);
            }
            due("to square 5", x.draw(0, 5, 2, 2, false, 0), 2);
        });
        edges.sentence(6, "NOT: a or b is BARRED, or there is none", x -> {
            x.board(0, 3, 3);
            go(x, 0, 6, 7);
            x.bar(0, 1, true);
            due("a is barred", x.draw(0, 1, 0, 2, false, 0), Edges.NOT);
            due("b is barred", x.draw(0, 0, 1, 2, false, 0), Edges.NOT);
            due("both, alone", x.draw(0, 1, 1, 1, false, 0), Edges.NOT);
            x.bar(0, 3, true);
            due("none leads there", x.draw(0, 0, 8, 5, false, 0), Edges.NOT);
            due("no look", x.looks(), 0);
            due("a length that parity rules out", x.draw(0, 2, 8, 4, false, 0), Edges.NOT);
            path(x, 0, 6, 7);
        });
        edges.sentence(6, "The PATH becomes what is DRAWN: n.", x -> {
            x.board(0, 6, 6);
            go(x, 0, 30, 31, 32);
            due("of all", x.draw(0, 0, 30, 36, false, 0), 36);
            due("its looks", x.looks(), 35);
            due("its length", x.told(0, 3), 36);
            due("its first", x.at(0, 0), 0);
            due("its last", x.at(0, 35), 30);
            due("a shorter one in its place", x.draw(0, 30, 32, 3, true, 0), 3);
            path(x, 0, 30, 31, 32);
            due("a square of the longer one is free", x.bar(0, 0, true), 0);
            due("one of it is not", x.bar(0, 31, true), Edges.NOT);
        });
    }

    private static void tells() {
        edges.sentence(9, "Of a SEAL: what = 0 w, 1 h, 2 BARRED SQUARES, 3 LENGTH", x -> {
            x.board(5, 5, 4);
            x.bar(5, 19, true);
            x.bar(5, 0, true);
            x.bar(5, 7, true);
            go(x, 5, 1, 2);
            due("w", x.told(5, 0), 5);
            due("h", x.told(5, 1), 4);
            due("barred", x.told(5, 2), 3);
            due("length", x.told(5, 3), 2);
            due("what -1", x.told(5, -1), Edges.OUTSIDE);
            due("what 7", x.told(5, 7), Edges.OUTSIDE);
            for (int wild : Edges.WILD) {
                due("what " + wild, x.told(5, wild), Edges.OUTSIDE);
            }
        });
        edges.sentence(9, "4 whether its WALLS are SOUND (1, 0), 5 KINDS (1 .. 3) by which it is ALIKE, as a SET", x -> {
            x.board(0, 3, 2);
            // Each row: the square that comes next, SOUND, KINDS as a SET.
            int[][] rows = {{0, 1, 0}, {1, 1, 0}, {4, 1, 0}, {5, 1, 8}, {2, 0, 0}};
            for (int[] row : rows) {
                x.go(0, row[0]);
                due("sound, with " + row[0], x.told(0, 4), row[1]);
                due("kinds, with " + row[0], x.told(0, 5), row[2]);
            }
        });
        edges.sentence(9, "A SET is a whole number, bit k for k.", x -> {
            x.board(0, 1, 2);
            x.go(0, 0);
            due("kind 1", x.told(0, 5), 2);
            x.board(0, 2, 1);
            x.go(0, 0);
            due("kind 2", x.told(0, 5), 4);
            x.go(0, 1);
            due("kinds 1, 2, 3", x.told(0, 5), 2 + 4 + 8);
        });
        edges.sentence(9, "2 BARRED SQUARES", x -> {
            x.board(0, 6, 6);
            for (int square = 0; square < 36; square++) {
                x.bar(0, square, true);
            }
            due("all", x.told(0, 2), 36);
            due("none can be the first", x.go(0, 17), Edges.NOT);
        });
        edges.sentence(10, "NONE is -1.", x -> {
            due("NONE", SmellHours.NONE, -1);
            due("no square", x.at(0, 0), -1);
            due("no fault", x.fault(), -1);
        });
        edges.sentence(10, "SQUARE i of the PATH of a SEAL; NONE. UNKNOWN.", x -> {
            Check.snake(x, 0, 6, 6);
            due("i -1", x.at(0, -1), Edges.NONE);
            due("i 0", x.at(0, 0), 0);
            due("i 35", x.at(0, 35), 30);
            due("i 36", x.at(0, 36), Edges.NONE);
            for (int wild : Edges.WILD) {
                due("i " + wild, x.at(0, wild), Edges.NONE);
            }
            x.wipe(0);
            go(x, 0, 9);
            due("i 1 of a shorter one", x.at(0, 1), Edges.NONE);
            due("seal -1", x.at(-1, 0), Edges.UNKNOWN);
            due("seal 6", x.at(6, 0), Edges.UNKNOWN);
            due("seal 6, i -1", x.at(6, -1), Edges.UNKNOWN);
        });
    }
}
