/** Promises 24 to 31: hands, links, agains, how the night goes, and dawn. */
public final class NightTest {
    private static final Check check = new Check();

    public static void main(String[] args) {
        lights();
        fireJumps();
        fireByDamp();
        bareStops();
        links();
        linkTies();
        linksOfLinks();
        linkToNoPath();
        linksRefused();
        agains();
        againAtTheEdge();
        againInOrder();
        againLinks();
        againsRefused();
        calms();
        nights();
        burns();
        scents();
        dawns();
        check.end();
    }

    private static void lights() {
        SmellHours x = new SmellHours();
        Check.lineClock(x, 0, 3, 0);
        check.due("light", x.light(0, 2, 5999), 1);
        check.due("lit at", x.night(0, 0), 5999);
        check.due("lit where", x.night(0, 3), 2);
        check.due("out", x.night(0, 1), 6029);
        check.due("a new hand in its place", x.light(0, 1, 6), 1);
        check.due("lit then at", x.night(0, 0), 6);
        check.due("lit then where", x.night(0, 3), 1);
        check.due("tick -2", x.light(0, 0, -2), Check.OUTSIDE);
        check.due("tick 6000", x.light(0, 0, 6000), Check.OUTSIDE);
        check.due("cell 3", x.light(0, 3, 6000), Check.UNKNOWN);
        check.due("cell 3, no hand", x.light(0, 3, Check.NONE), Check.UNKNOWN);
        check.due("cell -1", x.light(0, -1, 0), Check.UNKNOWN);
        check.due("clock 4", x.light(4, 0, 0), Check.UNKNOWN);
        check.due("clock -1", x.light(-1, 0, 0), Check.UNKNOWN);
        check.due("a clock without cells", x.light(1, 0, 0), Check.UNKNOWN);
        for (int wild : Check.WILD) {
            check.due("light wild c", x.light(wild, 0, 0), Check.UNKNOWN);
            check.due("light wild i", x.light(0, wild, 0), Check.UNKNOWN);
            check.due("light wild tick", x.light(0, 0, wild), Check.OUTSIDE);
        }
        check.due("refused, it stays", x.night(0, 0), 6);
        check.due("no hand", x.light(0, 0, Check.NONE), 1);
        check.due("not lit", x.night(0, 0), Check.NONE);
        check.due("nor out", x.night(0, 1), Check.NONE);
        check.due("nor lit anywhere", x.night(0, 3), Check.NONE);
        check.due("light at 0", x.light(0, 0, 0), 1);
        check.due("lit at 0", x.night(0, 0), 0);
    }

    /** Three rows of three, forth and back: cells 0 and 5, 1 and 4, 3 and 8, 4 and 7 are neighbours. */
    private static void fireJumps() {
        SmellHours x = new SmellHours();
        Check.snake(x, 0, 3, 3);
        x.mount(0, 0);
        x.bring(0, 0, 8);
        x.bring(0, 1, 8);
        x.rate(1, 35);
        for (int i = 0; i < 9; i++) {
            x.lay(0, i, i == 5 ? 1 : 0, 0);
        }
        x.light(0, 0, 100);
        int[] begins = {100, 110, 120, 130, 120, 110, 140, 130, 140};
        for (int i = 0; i < 9; i++) {
            check.due("begin of cell " + i, x.burns(0, i, 0), begins[i]);
            check.due("end of cell " + i, x.burns(0, i, 1), begins[i] + (i == 5 ? 35 : 10));
        }
        check.due("out", x.night(0, 1), 150);
        x.light(0, 4, 0);
        check.due("from the middle to 7", x.burns(0, 7, 0), 10);
        check.due("from the middle to 2", x.burns(0, 2, 0), 20);
        check.due("from the middle to 0", x.burns(0, 0, 0), 20);
        check.due("out behind the greatest end", x.night(0, 1), 45);
    }

    /** A later beginning may burn out earlier in a drier hour; the first that is burnt counts. */
    private static void fireByDamp() {
        SmellHours x = new SmellHours();
        Check.snake(x, 0, 2, 2);
        x.mount(0, 0);
        x.bring(0, 0, 4);
        x.bring(0, 1, 4);
        x.rate(0, 40);
        x.rate(1, 45);
        x.lay(0, 0, 1, 0);
        x.lay(0, 1, 0, 0);
        x.lay(0, 2, 0, 0);
        x.lay(0, 3, 1, 0);
        x.damp(1, 1, 50);
        x.light(0, 0, 10);
        check.due("cell 1", x.burns(0, 1, 0), 55);
        check.due("cell 3", x.burns(0, 3, 0), 55);
        check.due("cell 3 is burnt", x.burns(0, 3, 1), 100);
        check.due("cell 1 is burnt", x.burns(0, 1, 1), 95);
        check.due("cell 2 by the first of both", x.burns(0, 2, 0), 95);
        check.due("cell 2 in the damp", x.burns(0, 2, 1), 155);
        overtaken();
    }

    /** Cells 0 .. 5 around a square of 2 times 3: one arm begins late and dry, the other early and damp. */
    private static void overtaken() {
        SmellHours x = new SmellHours();
        x.board(0, 2, 3);
        int[] round = {0, 1, 3, 5, 4, 2};
        for (int square : round) {
            x.go(0, square);
        }
        x.mount(0, 0);
        x.bring(0, 0, 9);
        x.bring(0, 1, 9);
        x.bring(0, 2, 9);
        x.rate(0, 60);
        x.rate(1, 58);
        x.rate(2, 1);
        x.lay(0, 0, 2, 0);
        x.lay(0, 1, 1, 0);
        x.lay(0, 5, 0, 0);
        x.lay(0, 3, 2, 0);
        x.lay(0, 4, 2, 0);
        x.damp(0, 0, 50);
        x.light(0, 0, 0);
        // Cell 5 burns from 1 for 90 ticks; cell 1 for 87, but cell 2 is bare.
        check.due("cell 5", x.burns(0, 5, 1), 91);
        check.due("cell 1", x.burns(0, 1, 1), 88);
        check.due("cell 4 by way of cell 5", x.burns(0, 4, 0), 91);
        check.due("cell 3", x.burns(0, 3, 0), 92);
        x.lay(0, 2, 2, 0);
        check.due("cell 2 by way of cell 1", x.burns(0, 2, 0), 88);
        check.due("cell 3 by way of cell 2", x.burns(0, 3, 0), 89);
        check.due("cell 4 by way of cell 3", x.burns(0, 4, 0), 90);
    }

    private static void bareStops() {
        SmellHours x = new SmellHours();
        Check.line(x, 0, 5);
        x.mount(0, 0);
        x.bring(0, 0, 9);
        for (int i = 0; i < 5; i++) {
            if (i != 2) {
                x.lay(0, i, 0, 0);
            }
        }
        x.light(0, 0, 0);
        check.due("burns up to the bare one", x.night(0, 2), 2);
        check.due("behind it none begins", x.burns(0, 3, 0), Check.NONE);
        check.due("nor ends", x.burns(0, 3, 1), Check.NONE);
        x.light(0, 2, 9);
        check.due("lit at a bare one", x.night(0, 0), 9);
        check.due("out at once", x.night(0, 1), 9);
        check.due("nothing burns", x.night(0, 2), 0);
        check.due("lit where", x.night(0, 3), 2);
    }

    private static void links() {
        SmellHours x = new SmellHours();
        for (int c = 0; c < 3; c++) {
            Check.lineClock(x, c, 4, 0);
        }
        check.due("link", x.link(0, 2, 1), 1);
        check.due("not lit yet", x.night(1, 0), Check.NONE);
        x.light(0, 0, 100);
        check.due("lit by the link", x.night(1, 0), 120);
        check.due("at cell 0", x.night(1, 3), 0);
        check.due("out", x.night(1, 1), 160);
        check.due("a link that is later", x.link(0, 3, 1), 2);
        check.due("the earliest counts", x.night(1, 0), 120);
        check.due("a link that is earlier", x.link(0, 1, 1), 3);
        check.due("the earliest counts then", x.night(1, 0), 110);
        x.light(1, 2, 115);
        check.due("a later hand is nothing", x.night(1, 3), 0);
        x.light(1, 2, 105);
        check.due("an earlier hand", x.night(1, 3), 2);
        check.due("an earlier hand's tick", x.night(1, 0), 105);
        check.due("on and on", x.link(1, 3, 2), 4);
        check.due("lit at the third clock", x.night(2, 0), 115);
        check.due("three are lit", x.count(5), 3);
    }

    private static void linkTies() {
        SmellHours x = new SmellHours();
        Check.lineClock(x, 0, 2, 0);
        Check.lineClock(x, 1, 3, 0);
        x.link(0, 1, 1);
        x.light(0, 0, 0);
        x.light(1, 2, 10);
        check.due("of like ones the hand", x.night(1, 3), 2);
        check.due("like ones", x.night(1, 0), 10);
        x.light(1, 2, 11);
        check.due("a tick later the link", x.night(1, 3), 0);
        // Both by hand at one tick, each with a link to the other.
        x.calm();
        x.light(0, 1, 50);
        x.light(1, 2, 50);
        x.link(0, 1, 1);
        x.link(1, 2, 0);
        check.due("clock 0 by its hand", x.night(0, 3), 1);
        check.due("clock 1 by its hand", x.night(1, 3), 2);
    }

    /** A clock that lights another one may be lit by it no more; what comes first is settled first. */
    private static void linksOfLinks() {
        SmellHours x = new SmellHours();
        for (int c = 0; c < 4; c++) {
            Check.lineClock(x, c, 3, 0);
        }
        x.link(3, 2, 0);
        x.link(0, 1, 2);
        x.link(2, 0, 1);
        x.link(1, 2, 3);
        check.due("none is lit", x.count(5), 0);
        x.light(1, 0, 7);
        check.due("clock 1", x.night(1, 0), 7);
        check.due("clock 3", x.night(3, 0), 27);
        check.due("clock 0", x.night(0, 0), 47);
        check.due("clock 2", x.night(2, 0), 57);
        check.due("all are lit", x.count(5), 4);
        x.light(2, 2, 30);
        check.due("clock 2 by its hand, so no fire from its cell 0 on", x.night(2, 0), 30);
        check.due("clock 1 still by its hand", x.night(1, 0), 7);
        x.light(2, 2, 3);
        check.due("clock 2 is out", x.night(2, 1), 33);
        check.due("clock 1, its link is later", x.night(1, 0), 7);
        x.light(2, 0, 5);
        check.due("clock 1 by clock 2", x.night(1, 0), 5);
        check.due("clock 3 by clock 1", x.night(3, 0), 25);
    }

    /** A link lights cell 0, so a clock without cells is UNKNOWN to it till it is mounted. */
    private static void linkToNoPath() {
        SmellHours x = new SmellHours();
        Check.lineClock(x, 0, 2, 0);
        for (int c = 1; c < 4; c++) {
            check.due("a link to clock " + c + " without cells", x.link(0, 1, c), Check.UNKNOWN);
        }
        check.due("a link between clocks without cells", x.link(2, 0, 3), Check.UNKNOWN);
        check.due("to itself, without cells", x.link(3, 0, 3), Check.UNKNOWN);
        check.due("no link stands", x.count(2), 0);
        x.light(0, 0, 4);
        check.due("it is not lit", x.night(3, 0), Check.NONE);
        check.due("nor out", x.night(3, 1), Check.NONE);
        check.due("one is lit", x.count(5), 1);
        check.due("mounted, all bare", x.mount(3, 5), 2);
        check.due("a link to it", x.link(0, 1, 3), 1);
        check.due("it is lit", x.night(3, 0), 14);
        check.due("and out", x.night(3, 1), 14);
        check.due("nothing burns", x.night(3, 2), 0);
        check.due("at cell 0", x.night(3, 3), 0);
        for (int k = 2; k <= 12; k++) {
            x.link(0, 1, 3);
        }
        check.due("without cells, when full", x.link(0, 1, 2), Check.UNKNOWN);
        check.due("twelve links", x.count(2), 12);
    }

    private static void linksRefused() {
        SmellHours x = new SmellHours();
        Check.lineClock(x, 0, 2, 0);
        Check.lineClock(x, 1, 2, 0);
        check.due("b 4", x.link(4, 0, 1), Check.UNKNOWN);
        check.due("b -1", x.link(-1, 0, 1), Check.UNKNOWN);
        check.due("cell 2", x.link(0, 2, 0), Check.UNKNOWN);
        check.due("cell -1", x.link(0, -1, 1), Check.UNKNOWN);
        check.due("c 4", x.link(0, 0, 4), Check.UNKNOWN);
        check.due("c -1", x.link(0, 0, -1), Check.UNKNOWN);
        check.due("itself", x.link(0, 0, 0), Check.OUTSIDE);
        check.due("a clock without cells", x.link(2, 0, 1), Check.UNKNOWN);
        for (int wild : Check.WILD) {
            check.due("link wild b", x.link(wild, 0, 1), Check.UNKNOWN);
            check.due("link wild i", x.link(0, wild, 1), Check.UNKNOWN);
            check.due("link wild c", x.link(0, 0, wild), Check.UNKNOWN);
        }
        check.due("no links", x.count(2), 0);
        for (int k = 1; k <= 12; k++) {
            check.due("link " + k, x.link(0, 1, 1), k);
        }
        check.due("one more", x.link(0, 1, 1), Check.FULL);
        check.due("itself, when full", x.link(0, 1, 0), Check.OUTSIDE);
        check.due("twelve links", x.count(2), 12);
    }

    /** A line of seven cells, cell 3 bare. */
    private static SmellHours broken() {
        SmellHours x = new SmellHours();
        x.board(0, 6, 2);
        for (int i = 0; i < 6; i++) {
            x.go(0, i);
        }
        x.go(0, 11);
        x.mount(0, 0);
        x.bring(0, 2, 20);
        for (int i = 0; i < 7; i++) {
            if (i != 3) {
                x.lay(0, i, 2, 0);
            }
        }
        x.light(0, 0, 0);
        return x;
    }

    private static void agains() {
        SmellHours x = broken();
        check.due("out", x.night(0, 1), 30);
        check.due("again", x.again(0, 5, 100), 1);
        check.due("out later", x.night(0, 1), 120);
        check.due("lit still at", x.night(0, 0), 0);
        check.due("lit still where", x.night(0, 3), 0);
        check.due("six burn", x.night(0, 2), 6);
        check.due("cell 5", x.burns(0, 5, 0), 100);
        check.due("cell 4", x.burns(0, 4, 0), 110);
        check.due("cell 6", x.burns(0, 6, 0), 110);
        check.due("cell 0 as it was", x.burns(0, 0, 1), 10);
        x.calm();
        x.light(0, 1, 40);
        check.due("an again ahead of the light", x.again(0, 5, 20), 1);
        check.due("is nothing", x.night(0, 2), 3);
        check.due("an again at a bare cell", x.again(0, 3, 200), 2);
        check.due("is nothing either", x.night(0, 1), 60);
        check.due("an again at a burnt cell", x.again(0, 2, 300), 3);
        check.due("is nothing, too", x.night(0, 1), 60);
        x.light(0, 3, 50);
        check.due("lit at a bare cell", x.night(0, 0), 50);
        check.due("it goes on with the again at 300", x.burns(0, 2, 0), 300);
        check.due("all along", x.night(0, 1), 330);
        x.light(0, 0, Check.NONE);
        check.due("not lit, an again is nothing", x.night(0, 2), 0);
        check.due("not lit, not out", x.night(0, 1), Check.NONE);
    }

    private static void againAtTheEdge() {
        SmellHours x = broken();
        x.again(0, 4, 29);
        check.due("a tick ahead of out", x.burns(0, 4, 0), Check.NONE);
        x.calm();
        x.light(0, 0, 0);
        x.again(0, 4, 30);
        check.due("at out", x.burns(0, 4, 0), 30);
        x.calm();
        x.light(0, 3, 77);
        x.again(0, 4, 77);
        check.due("out as it is lit", x.burns(0, 4, 0), 77);
        x.calm();
        x.light(0, 0, 0);
        x.lay(0, 3, 2, 0);
        x.sweep(0, 0);
        x.lay(0, 0, 2, 0);
        x.lay(0, 6, 2, 0);
        x.again(0, 6, 5999);
        check.due("at tick 5999", x.night(0, 1), 6009);
    }

    private static void againInOrder() {
        SmellHours x = broken();
        x.sweep(0, 0);
        for (int i = 0; i < 7; i += 2) {
            x.lay(0, i, 2, 0);
        }
        // Told from the latest to the earliest; of like ones as told.
        x.again(0, 6, 60);
        x.again(0, 2, 55);
        x.again(0, 4, 50);
        x.again(0, 2, 50);
        check.due("cell 4 at 50", x.burns(0, 4, 0), 50);
        check.due("cell 2 burns not at 50, nor at 55", x.burns(0, 2, 0), Check.NONE);
        check.due("cell 6 at 60", x.burns(0, 6, 0), 60);
        check.due("out", x.night(0, 1), 70);
        x.again(0, 2, 65);
        check.due("while it burns", x.burns(0, 2, 0), Check.NONE);
        x.again(0, 2, 70);
        check.due("as it is out", x.burns(0, 2, 0), 70);
        check.due("six agains", x.count(3), 6);
    }

    private static void againLinks() {
        SmellHours x = broken();
        Check.lineClock(x, 1, 2, 0);
        Check.lineClock(x, 2, 2, 0);
        x.link(0, 6, 1);
        x.link(1, 0, 2);
        check.due("cell 6 does not begin", x.night(1, 0), Check.NONE);
        x.again(0, 4, 1000);
        check.due("lit by a cell that an again lit", x.night(1, 0), 1020);
        check.due("and on", x.night(2, 0), 1020);
        x.light(2, 0, 1019);
        check.due("a hand ahead of it", x.night(2, 0), 1019);
    }

    private static void againsRefused() {
        SmellHours x = broken();
        check.due("clock 4", x.again(4, 0, 0), Check.UNKNOWN);
        check.due("clock -1", x.again(-1, 0, 0), Check.UNKNOWN);
        check.due("cell 7", x.again(0, 7, 6000), Check.UNKNOWN);
        check.due("cell -1", x.again(0, -1, 0), Check.UNKNOWN);
        check.due("tick 6000", x.again(0, 0, 6000), Check.OUTSIDE);
        check.due("tick -1", x.again(0, 0, -1), Check.OUTSIDE);
        for (int wild : Check.WILD) {
            check.due("again wild c", x.again(wild, 0, 0), Check.UNKNOWN);
            check.due("again wild i", x.again(0, wild, 0), Check.UNKNOWN);
            check.due("again wild tick", x.again(0, 0, wild), Check.OUTSIDE);
        }
        check.due("no agains", x.count(3), 0);
        for (int k = 1; k <= 12; k++) {
            check.due("again " + k, x.again(0, 0, 0), k);
        }
        check.due("one more", x.again(0, 4, 500), Check.FULL);
        check.due("outside, when full", x.again(0, 4, 6000), Check.OUTSIDE);
        check.due("twelve agains", x.count(3), 12);
        check.due("it is not there", x.burns(0, 4, 0), Check.NONE);
    }

    private static void calms() {
        SmellHours x = broken();
        Check.lineClock(x, 1, 2, 0);
        x.light(1, 0, 3);
        x.link(0, 0, 1);
        x.link(0, 1, 1);
        x.again(0, 4, 90);
        x.hang(0, 0);
        check.due("calm", x.calm(), 3);
        check.due("no links", x.count(2), 0);
        check.due("no agains", x.count(3), 0);
        check.due("no hands", x.count(5), 0);
        check.due("balls stay", x.count(0), 1);
        check.due("grains stay", x.grain(0, 0), 2);
        check.due("calm again", x.calm(), 0);
        x.light(0, 0, 0);
        check.due("the again is gone", x.night(0, 2), 3);
        check.due("the links are gone", x.night(1, 0), Check.NONE);
    }

    private static void nights() {
        SmellHours x = broken();
        check.due("what 4", x.night(0, 4), Check.OUTSIDE);
        check.due("what -1", x.night(0, -1), Check.OUTSIDE);
        check.due("clock 4", x.night(4, 4), Check.UNKNOWN);
        check.due("clock -1", x.night(-1, 0), Check.UNKNOWN);
        check.due("another one is not lit", x.night(1, 0), Check.NONE);
        check.due("another one is not out", x.night(1, 1), Check.NONE);
        check.due("nothing of another one burns", x.night(1, 2), 0);
        check.due("another one is lit nowhere", x.night(1, 3), Check.NONE);
        for (int wild : Check.WILD) {
            check.due("night wild c", x.night(wild, 0), Check.UNKNOWN);
            check.due("night wild what", x.night(0, wild), Check.OUTSIDE);
        }
    }

    private static void burns() {
        SmellHours x = broken();
        check.due("what 2", x.burns(0, 0, 2), Check.OUTSIDE);
        check.due("what -1", x.burns(0, 0, -1), Check.OUTSIDE);
        check.due("cell 7", x.burns(0, 7, 2), Check.UNKNOWN);
        check.due("cell -1", x.burns(0, -1, 0), Check.UNKNOWN);
        check.due("clock 4", x.burns(4, 0, 0), Check.UNKNOWN);
        check.due("clock -1", x.burns(-1, 0, 0), Check.UNKNOWN);
        for (int wild : Check.WILD) {
            check.due("burns wild c", x.burns(wild, 0, 0), Check.UNKNOWN);
            check.due("burns wild i", x.burns(0, wild, 0), Check.UNKNOWN);
            check.due("burns wild what", x.burns(0, 0, wild), Check.OUTSIDE);
        }
        x.lay(0, 3, 2, 0);
        check.due("a grain laid now", x.burns(0, 3, 1), 40);
        x.rate(2, 20);
        check.due("a rate told now", x.burns(0, 3, 1), 80);
        x.damp(0, 0, 50);
        // Begins at 0, 30; at 60 and 80 in a dry hour.
        check.due("a damp told now", x.burns(0, 3, 1), 100);
        x.sweep(0, 0);
        check.due("swept", x.burns(0, 3, 1), Check.NONE);
        x.fill(0, 0, 1);
        check.due("not filled with what is not there", x.burns(0, 0, 0), Check.NONE);
        x.row(0, 2);
        x.fill(0, 0, 1);
        check.due("filled now", x.burns(0, 1, 0), 30);
    }

    private static void scents() {
        SmellHours x = new SmellHours();
        Check.snake(x, 0, 2, 2);
        x.mount(0, 0);
        for (int p = 4; p < 8; p++) {
            x.bring(0, p, 1);
            x.lay(0, p - 4, p, 0);
        }
        x.rate(5, 15);
        x.light(0, 0, 10);
        check.due("ahead", x.scent(0, 9), 0);
        check.due("cell 0", x.scent(0, 10), 16);
        check.due("cell 0 still", x.scent(0, 19), 16);
        check.due("cells 1 and 3", x.scent(0, 20), 32 + 128);
        check.due("cells 1 and 2", x.scent(0, 30), 32 + 64);
        check.due("cell 2 alone", x.scent(0, 35), 64);
        check.due("cell 2 at last", x.scent(0, 39), 64);
        check.due("out", x.scent(0, 40), 0);
        check.due("tick 0", x.scent(0, 0), 0);
        check.due("tick 20000", x.scent(0, 20000), 0);
        check.due("tick 20001", x.scent(0, 20001), Check.OUTSIDE);
        check.due("tick -1", x.scent(0, -1), Check.OUTSIDE);
        check.due("clock 4", x.scent(4, -1), Check.UNKNOWN);
        check.due("clock -1", x.scent(-1, 0), Check.UNKNOWN);
        check.due("another clock", x.scent(1, 20), 0);
        for (int wild : Check.WILD) {
            check.due("scent wild c", x.scent(wild, 0), Check.UNKNOWN);
            check.due("scent wild tick", x.scent(0, wild), Check.OUTSIDE);
        }
    }

    private static void dawns() {
        SmellHours x = broken();
        Check.lineClock(x, 1, 2, 0);
        x.link(0, 1, 1);
        x.link(0, 6, 2);
        x.again(0, 4, 95);
        x.hang(0, 6);
        x.hear(9);
        x.damp(3, 3, 9);
        check.due("dawn", x.dawn(), 8);
        check.due("ashes of 2", x.weighed(2, 3), 6);
        check.due("ashes of 0", x.weighed(0, 3), 2);
        check.due("bare", x.grain(0, 0), Check.NONE);
        check.due("no links", x.count(2), 0);
        check.due("no agains", x.count(3), 0);
        check.due("no hands", x.count(5), 0);
        check.due("balls stay", x.count(0), 1);
        check.due("what was heard stays", x.count(1), 1);
        check.due("mounted still", x.count(4), 2);
        check.due("no ball drops", x.drops(0), Check.NONE);
        check.due("dawn again", x.dawn(), 0);
        x.light(0, 0, 0);
        check.due("a clock of ashes", x.night(0, 2), 0);
        x.lay(0, 0, 2, 0);
        x.lay(0, 2, 2, 0);
        check.due("dawn of one", x.dawn(), 1);
        check.due("what did not burn stays", x.grain(0, 2), 2);
        check.due("ashes together", x.weighed(2, 3), 7);
    }
}
