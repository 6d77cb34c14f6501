/** Promises 1 to 10: seals, their paths, and the search for one. */
public final class SealTest {
    private static final Check check = new Check();

    public static void main(String[] args) {
        newObject();
        boards();
        bars();
        goes();
        wipes();
        draws();
        drawsInOrder();
        drawsAlike();
        drawsRefused();
        bounds();
        tells();
        ats();
        check.end();
    }

    private static void newObject() {
        SmellHours x = new SmellHours();
        for (int s = 0; s < 6; s++) {
            check.due("new told w", x.told(s, 0), 1);
            check.due("new told h", x.told(s, 1), 1);
            check.due("new told barred", x.told(s, 2), 0);
            check.due("new told length", x.told(s, 3), 0);
            check.due("new told sound", x.told(s, 4), 1);
            check.due("new told alike", x.told(s, 5), 14);
            check.due("new told pairs", x.told(s, 6), 0);
            check.due("new at", x.at(s, 0), Check.NONE);
        }
        check.due("new looks", x.looks(), 0);
        check.due("new bound", x.bound(100), 5000);
        for (int p = 0; p < 8; p++) {
            check.due("new rate", x.rate(p, 1), 10);
            for (int j = 0; j < 4; j++) {
                check.due("new jar", x.jar(j, p), 0);
            }
        }
        for (int k = 0; k < 12; k++) {
            check.due("new row", x.row(k, 1), 0);
            check.due("new words", x.words(k), 0);
        }
        for (int c = 0; c < 4; c++) {
            check.due("new grain", x.grain(c, 0), Check.UNKNOWN);
            check.due("new night 0", x.night(c, 0), Check.NONE);
            check.due("new night 1", x.night(c, 1), Check.NONE);
            check.due("new night 2", x.night(c, 2), 0);
            check.due("new night 3", x.night(c, 3), Check.NONE);
        }
        check.due("new fault", x.fault(), Check.NONE);
        check.due("new season", x.season(60), 60);
        for (int what = 0; what < 7; what++) {
            check.due("new count " + what, x.count(what), 0);
        }
        check.due("new count 7", x.count(7), 60);
    }

    private static void boards() {
        SmellHours x = new SmellHours();
        check.due("board 6 6", x.board(5, 6, 6), 36);
        check.due("board 2 3", x.board(0, 2, 3), 6);
        check.due("its w", x.told(0, 0), 2);
        check.due("its h", x.told(0, 1), 3);
        check.due("the other's w", x.told(5, 0), 6);
        x.bar(0, 5, true);
        x.go(0, 0);
        check.due("board 0 1", x.board(0, 0, 1), Check.OUTSIDE);
        check.due("board 1 0", x.board(0, 1, 0), Check.OUTSIDE);
        check.due("board 7 1", x.board(0, 7, 1), Check.OUTSIDE);
        check.due("board 1 7", x.board(0, 1, 7), Check.OUTSIDE);
        check.due("board -1", x.board(-1, 0, 1), Check.UNKNOWN);
        check.due("board 6", x.board(6, 1, 1), Check.UNKNOWN);
        check.due("a refused board keeps bars", x.told(0, 2), 1);
        check.due("a refused board keeps the path", x.told(0, 3), 1);
        check.due("board anew", x.board(0, 2, 3), 6);
        check.due("no bars then", x.told(0, 2), 0);
        check.due("no path then", x.told(0, 3), 0);
        check.due("square 0 can be barred then", x.bar(0, 0, true), 0);
        for (int wild : Check.WILD) {
            check.due("board wild s", x.board(wild, 1, 1), Check.UNKNOWN);
            check.due("board wild w", x.board(0, wild, 1), Check.OUTSIDE);
            check.due("board wild h", x.board(0, 1, wild), Check.OUTSIDE);
        }
    }

    private static void bars() {
        SmellHours x = new SmellHours();
        x.board(0, 3, 3);
        check.due("bar 4", x.bar(0, 4, true), 0);
        check.due("bar 4 again", x.bar(0, 4, true), 1);
        check.due("barred", x.told(0, 2), 1);
        check.due("unbar 4", x.bar(0, 4, false), 1);
        check.due("unbar 4 again", x.bar(0, 4, false), 0);
        check.due("none barred", x.told(0, 2), 0);
        x.go(0, 8);
        check.due("bar in path", x.bar(0, 8, true), Check.NOT);
        check.due("unbar in path", x.bar(0, 8, false), Check.NOT);
        check.due("still none barred", x.told(0, 2), 0);
        check.due("bar 9", x.bar(0, 9, true), Check.OUTSIDE);
        check.due("bar -1", x.bar(0, -1, true), Check.OUTSIDE);
        check.due("bar seal 6", x.bar(6, 9, true), Check.UNKNOWN);
        check.due("bar seal -1", x.bar(-1, 0, true), Check.UNKNOWN);
        check.due("another seal has none", x.told(1, 2), 0);
        for (int wild : Check.WILD) {
            check.due("bar wild s", x.bar(wild, 0, true), Check.UNKNOWN);
            check.due("bar wild square", x.bar(0, wild, true), Check.OUTSIDE);
        }
    }

    private static void goes() {
        SmellHours x = new SmellHours();
        x.board(0, 3, 2);
        x.bar(0, 4, true);
        check.due("go to a barred one first", x.go(0, 4), Check.NOT);
        check.due("go 3", x.go(0, 3), 1);
        check.due("go to a barred one", x.go(0, 4), Check.NOT);
        check.due("go across the edge", x.go(0, 2), Check.NOT);
        check.due("go aslant", x.go(0, 1), Check.NOT);
        check.due("go 0", x.go(0, 0), 2);
        check.due("go back", x.go(0, 3), Check.NOT);
        check.due("go to itself", x.go(0, 0), Check.NOT);
        check.due("go 1", x.go(0, 1), 3);
        check.due("go 2", x.go(0, 2), 4);
        check.due("go 3 across the edge", x.go(0, 3), Check.NOT);
        check.due("go 6", x.go(0, 6), Check.OUTSIDE);
        check.due("go -1", x.go(0, -1), Check.OUTSIDE);
        check.due("go seal 6", x.go(6, 6), Check.UNKNOWN);
        check.due("go seal -1", x.go(-1, 0), Check.UNKNOWN);
        check.due("length", x.told(0, 3), 4);
        check.due("go 5", x.go(0, 5), 5);
        for (int wild : Check.WILD) {
            check.due("go wild s", x.go(wild, 0), Check.UNKNOWN);
            check.due("go wild square", x.go(0, wild), Check.OUTSIDE);
        }
        Check.snake(x, 1, 6, 6);
        check.due("a path of all squares", x.told(1, 3), 36);
    }

    private static void wipes() {
        SmellHours x = new SmellHours();
        x.board(2, 2, 2);
        x.bar(2, 3, true);
        x.go(2, 0);
        x.go(2, 1);
        check.due("wipe", x.wipe(2), 2);
        check.due("wipe again", x.wipe(2), 0);
        check.due("wiped length", x.told(2, 3), 0);
        check.due("wiped at", x.at(2, 0), Check.NONE);
        check.due("bars stay", x.told(2, 2), 1);
        check.due("w stays", x.told(2, 0), 2);
        check.due("go anywhere then", x.go(2, 2), 1);
        check.due("wipe 6", x.wipe(6), Check.UNKNOWN);
        check.due("wipe -1", x.wipe(-1), Check.UNKNOWN);
        for (int wild : Check.WILD) {
            check.due("wipe wild", x.wipe(wild), Check.UNKNOWN);
        }
    }

    private static void path(String what, SmellHours x, int s, int... squares) {
        check.due(what + " length", x.told(s, 3), squares.length);
        for (int i = 0; i < squares.length; i++) {
            check.due(what + " at " + i, x.at(s, i), squares[i]);
        }
    }

    private static void draws() {
        SmellHours x = new SmellHours();
        x.board(0, 3, 3);
        x.go(0, 8);
        check.due("draw 0 8 5", x.draw(0, 0, 8, 5, false, 0), 5);
        path("drawn", x, 0, 0, 1, 2, 5, 8);
        // 1; 2; 5; 4 (five with it, so not gone on from); 8.
        check.due("its looks", x.looks(), 5);
        check.due("draw of length 1", x.draw(0, 4, 4, 1, true, 3), 1);
        path("one square", x, 0, 4);
        check.due("no looks", x.looks(), 0);
        check.due("one square at another end", x.draw(0, 4, 5, 1, false, 0), Check.NOT);
        check.due("no looks then", x.looks(), 0);
        check.due("two squares", x.draw(0, 4, 5, 2, false, 0), 2);
        // Of 1, 3, 5 from 4 on.
        check.due("looks of two squares", x.looks(), 3);
        check.due("a round", x.draw(0, 4, 4, 4, false, 0), Check.NOT);
        check.due("no looks of a round", x.looks(), 0);
        path("the path stays", x, 0, 4, 5);
        check.due("a length that cannot be", x.draw(0, 0, 8, 4, false, 0), Check.NOT);
        path("the path stays then", x, 0, 4, 5);
        check.due("all squares", x.draw(0, 0, 8, 9, false, 0), 9);
        path("all squares", x, 0, 0, 1, 2, 5, 4, 3, 6, 7, 8);
        check.due("no sound path of all", x.draw(0, 0, 8, 9, true, 0), Check.NOT);
        check.due("a sound path of seven", x.draw(0, 0, 8, 7, true, 0), Check.NOT);
        check.due("a sound path of five", x.draw(0, 0, 8, 5, true, 0), 5);
        path("a sound path of five", x, 0, 0, 1, 2, 5, 8);
        // 1; 2; 5 (4 touches 1); 8 (4 touches 1).
        check.due("looks of a sound path", x.looks(), 4);
        x.bar(1, 0, true);
        check.due("a barred square alone", x.draw(1, 0, 0, 1, false, 0), Check.NOT);
    }

    private static void drawsInOrder() {
        SmellHours x = new SmellHours();
        x.board(0, 3, 3);
        check.due("0 to 4 with three", x.draw(0, 0, 4, 3, false, 0), 3);
        path("0 to 4 with three", x, 0, 0, 1, 4);
        check.due("looks 1, 2, 4", x.looks(), 3);
        check.due("0 to 4 with five", x.draw(0, 0, 4, 5, false, 0), 5);
        path("0 to 4 with five", x, 0, 0, 1, 2, 5, 4);
        check.due("looks 1, 2, 5, 4", x.looks(), 4);
        // The goal is a look when it comes too early, and is not gone on from.
        check.due("0 to 4 with nine", x.draw(0, 0, 4, 9, false, 0), 9);
        path("0 to 4 with nine", x, 0, 0, 1, 2, 5, 8, 7, 6, 3, 4);
        check.due("looks 1 2 5 4 8 7 4 6 3 4", x.looks(), 10);
        x.wipe(0);
        x.bar(0, 1, true);
        check.due("around a bar", x.draw(0, 0, 2, 5, false, 0), 5);
        path("around a bar", x, 0, 0, 3, 4, 5, 2);
        x.board(1, 1, 6);
        check.due("down a board of one column", x.draw(1, 0, 5, 6, true, 0), 6);
        path("one column", x, 1, 0, 1, 2, 3, 4, 5);
        check.due("up a board of one column", x.draw(1, 5, 0, 6, true, 2), 6);
        path("one column up", x, 1, 5, 4, 3, 2, 1, 0);
    }

    private static void drawsAlike() {
        SmellHours x = new SmellHours();
        x.board(0, 3, 3);
        check.due("as it may be", x.draw(0, 0, 2, 5, false, 0), 5);
        path("as it may be", x, 0, 0, 1, 4, 5, 2);
        check.due("its looks", x.looks(), 7);
        check.due("alike by 1", x.draw(0, 0, 2, 5, false, 1), 5);
        path("alike by 1", x, 0, 0, 3, 4, 5, 2);
        check.due("looks alike by 1", x.looks(), 17);
        check.due("told alike by 1", x.told(0, 5), 2);
        check.due("alike by 2", x.draw(0, 0, 6, 5, false, 2), 5);
        path("alike by 2", x, 0, 0, 1, 4, 7, 6);
        check.due("told alike by 2", x.told(0, 5), 4);
        check.due("alike by 3", x.draw(0, 0, 8, 5, false, 3), 5);
        path("alike by 3", x, 0, 0, 1, 4, 7, 8);
        check.due("told alike by 3", x.told(0, 5), 8);
        check.due("sound and alike", x.draw(0, 0, 2, 5, true, 1), 5);
        path("sound and alike", x, 0, 0, 3, 4, 5, 2);
        check.due("one alike by 1", x.draw(0, 7, 7, 1, false, 1), 1);
        check.due("one not alike by 2", x.draw(0, 7, 7, 1, false, 2), Check.NOT);
        path("one stays", x, 0, 7);
    }

    private static void drawsRefused() {
        SmellHours x = new SmellHours();
        x.board(0, 3, 2);
        x.draw(0, 0, 2, 3, false, 0);
        // 1; 2.
        check.due("looks ahead", x.looks(), 2);
        check.due("seal 6", x.draw(6, 9, 9, 9, true, 9), Check.UNKNOWN);
        check.due("seal -1", x.draw(-1, 0, 0, 1, true, 0), Check.UNKNOWN);
        check.due("a 6", x.draw(0, 6, 0, 2, true, 0), Check.OUTSIDE);
        check.due("a -1", x.draw(0, -1, 0, 2, true, 0), Check.OUTSIDE);
        check.due("b 6", x.draw(0, 0, 6, 2, true, 0), Check.OUTSIDE);
        check.due("b -1", x.draw(0, 0, -1, 2, true, 0), Check.OUTSIDE);
        check.due("n 0", x.draw(0, 0, 1, 0, true, 0), Check.OUTSIDE);
        check.due("n 7", x.draw(0, 0, 1, 7, true, 0), Check.OUTSIDE);
        check.due("kind -1", x.draw(0, 0, 1, 2, true, -1), Check.OUTSIDE);
        check.due("kind 4", x.draw(0, 0, 1, 2, true, 4), Check.OUTSIDE);
        for (int wild : Check.WILD) {
            check.due("wild s", x.draw(wild, 0, 1, 2, true, 0), Check.UNKNOWN);
            check.due("wild a", x.draw(0, wild, 1, 2, true, 0), Check.OUTSIDE);
            check.due("wild b", x.draw(0, 0, wild, 2, true, 0), Check.OUTSIDE);
            check.due("wild n", x.draw(0, 0, 1, wild, true, 0), Check.OUTSIDE);
            check.due("wild kind", x.draw(0, 0, 1, 2, true, wild), Check.OUTSIDE);
        }
        check.due("looks stay with these", x.looks(), 2);
        path("the path stays with these", x, 0, 0, 1, 2);
        x.bar(0, 5, true);
        check.due("b barred", x.draw(0, 0, 5, 4, false, 0), Check.NOT);
        check.due("no looks to a barred one", x.looks(), 0);
        x.draw(0, 0, 2, 3, false, 0);
        check.due("a barred", x.draw(0, 5, 0, 4, false, 0), Check.NOT);
        check.due("no looks from a barred one", x.looks(), 0);
        check.due("barred, and a kind outside", x.draw(0, 5, 0, 4, false, 4), Check.OUTSIDE);
        path("the path stays with a barred one", x, 0, 0, 1, 2);
    }

    private static void bounds() {
        SmellHours x = new SmellHours();
        check.due("bound 99", x.bound(99), Check.OUTSIDE);
        check.due("bound 20001", x.bound(20001), Check.OUTSIDE);
        for (int wild : Check.WILD) {
            check.due("bound wild", x.bound(wild), Check.OUTSIDE);
        }
        check.due("bound 20000", x.bound(20000), 5000);
        check.due("bound 100", x.bound(100), 20000);
        check.due("bound 135", x.bound(135), 100);
        x.board(0, 4, 4);
        check.due("none, with just so many looks", x.draw(0, 0, 3, 16, true, 0), Check.NOT);
        check.due("just so many", x.looks(), 135);
        x.bound(134);
        check.due("spent with one less", x.draw(0, 0, 3, 16, true, 0), Check.SPENT);
        check.due("looks when spent", x.looks(), 134);
        foundAtBound();
    }

    private static void foundAtBound() {
        SmellHours x = new SmellHours();
        x.board(0, 5, 5);
        check.due("found", x.draw(0, 0, 4, 17, true, 0), 17);
        int looks = x.looks();
        check.holds("it takes more looks than the least bound", looks > 100);
        x.bound(looks);
        x.wipe(0);
        check.due("found at the bound", x.draw(0, 0, 4, 17, true, 0), 17);
        x.wipe(0);
        x.go(0, 7);
        x.bound(looks - 1);
        check.due("spent below it", x.draw(0, 0, 4, 17, true, 0), Check.SPENT);
        check.due("looks below it", x.looks(), looks - 1);
        path("spent, the path stays", x, 0, 7);
    }

    private static void tells() {
        SmellHours x = new SmellHours();
        x.board(0, 4, 2);
        x.go(0, 1);
        x.go(0, 2);
        check.due("alike by 1 alone", x.told(0, 5), 2);
        x.wipe(0);
        x.go(0, 1);
        x.go(0, 5);
        check.due("alike by 2 alone", x.told(0, 5), 4);
        x.wipe(0);
        x.go(0, 0);
        x.go(0, 1);
        check.due("alike by none, in row 0", x.told(0, 5), 0);
        x.wipe(0);
        x.go(0, 6);
        x.go(0, 7);
        check.due("alike by none, in row 1", x.told(0, 5), 0);
        x.board(0, 2, 4);
        x.go(0, 0);
        x.go(0, 2);
        check.due("alike by none, in column 0", x.told(0, 5), 0);
        x.board(0, 6, 6);
        for (int square = 0; square < 36; square++) {
            x.bar(0, square, true);
        }
        check.due("all barred", x.told(0, 2), 36);
        x.board(1, 2, 3);
        x.go(1, 1);
        x.go(1, 3);
        x.go(1, 2);
        x.go(1, 4);
        check.due("alike by 3 alone", x.told(1, 5), 8);
        check.due("its w", x.told(1, 0), 2);
        check.due("its h", x.told(1, 1), 3);
        check.due("sound", x.told(1, 4), 1);
        check.due("no pairs", x.told(1, 6), 0);
        x.bar(1, 0, true);
        x.bar(1, 5, true);
        check.due("two barred", x.told(1, 2), 2);
        Check.snake(x, 2, 6, 6);
        // 60 pairs of neighbours on the board, 35 of them next to one another in the path.
        check.due("pairs of a snake", x.told(2, 6), 25);
        check.due("a snake is not sound", x.told(2, 4), 0);
        check.due("a snake is alike by all", x.told(2, 5), 14);
        Check.snake(x, 3, 2, 2);
        check.due("one pair", x.told(3, 6), 1);
        check.due("one pair is not sound", x.told(3, 4), 0);
        check.due("told -1", x.told(0, -1), Check.OUTSIDE);
        check.due("told 7", x.told(0, 7), Check.OUTSIDE);
        check.due("told seal 6", x.told(6, 7), Check.UNKNOWN);
        check.due("told seal -1", x.told(-1, 0), Check.UNKNOWN);
        for (int wild : Check.WILD) {
            check.due("told wild s", x.told(wild, 0), Check.UNKNOWN);
            check.due("told wild what", x.told(0, wild), Check.OUTSIDE);
        }
    }

    private static void ats() {
        SmellHours x = new SmellHours();
        x.board(4, 2, 2);
        x.go(4, 3);
        x.go(4, 2);
        check.due("at 0", x.at(4, 0), 3);
        check.due("at 1", x.at(4, 1), 2);
        check.due("at 2", x.at(4, 2), Check.NONE);
        check.due("at -1", x.at(4, -1), Check.NONE);
        check.due("at seal 6", x.at(6, 0), Check.UNKNOWN);
        check.due("at seal -1", x.at(-1, 0), Check.UNKNOWN);
        for (int wild : Check.WILD) {
            check.due("at wild s", x.at(wild, 0), Check.UNKNOWN);
            check.due("at wild i", x.at(4, wild), Check.NONE);
        }
    }
}
