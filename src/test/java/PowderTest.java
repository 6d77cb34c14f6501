/** Promises 11 to 16: rates, damp, jars, and what is weighed. */
public final class PowderTest {
    private static final Check check = new Check();

    public static void main(String[] args) {
        rates();
        damps();
        dampHours();
        brings();
        jars();
        pours();
        weighs();
        check.end();
    }

    private static void rates() {
        SmellHours x = new SmellHours();
        check.due("rate 0 1", x.rate(0, 1), 10);
        check.due("rate 0 60", x.rate(0, 60), 1);
        check.due("rate 0 0", x.rate(0, 0), Check.OUTSIDE);
        check.due("rate 0 61", x.rate(0, 61), Check.OUTSIDE);
        check.due("rate 8 0", x.rate(8, 0), Check.UNKNOWN);
        check.due("rate -1 1", x.rate(-1, 1), Check.UNKNOWN);
        check.due("rate 7", x.rate(7, 3), 10);
        check.due("rate 0 stayed", x.rate(0, 2), 60);
        for (int wild : Check.WILD) {
            check.due("rate wild powder", x.rate(wild, 1), Check.UNKNOWN);
            check.due("rate wild v", x.rate(0, wild), Check.OUTSIDE);
        }
        Check.lineClock(x, 0, 2, 0);
        x.light(0, 0, 0);
        check.due("burns by its rate", x.burns(0, 0, 1), 2);
        x.rate(0, 9);
        check.due("burns by its new rate", x.burns(0, 0, 1), 9);
        x.rate(7, 50);
        check.due("another one's rate is nothing to it", x.burns(0, 0, 1), 9);
    }

    private static void damps() {
        SmellHours x = new SmellHours();
        Check.lineClock(x, 0, 1, 3);
        x.rate(3, 7);
        x.light(0, 0, 119);
        check.due("damp 1", x.damp(1, 1, 50), 1);
        check.due("floor of 7 * 150 / 100", x.burns(0, 0, 1), 129);
        check.due("damp -1", x.damp(-1, 1, 0), Check.OUTSIDE);
        check.due("damp 100", x.damp(0, 100, 0), Check.OUTSIDE);
        check.due("damp a 100", x.damp(100, 100, 0), Check.OUTSIDE);
        check.due("damp back", x.damp(2, 1, 0), Check.OUTSIDE);
        check.due("damp 51", x.damp(0, 99, 51), Check.OUTSIDE);
        check.due("damp below 0", x.damp(0, 99, -1), Check.OUTSIDE);
        for (int wild : Check.WILD) {
            check.due("damp wild a", x.damp(wild, 99, 0), Check.OUTSIDE);
            check.due("damp wild b", x.damp(0, wild, 0), Check.OUTSIDE);
            check.due("damp wild d", x.damp(0, 99, wild), Check.OUTSIDE);
        }
        check.due("refused, it stays", x.burns(0, 0, 1), 129);
        check.due("damp of all", x.damp(0, 99, 14), 1);
        check.due("floor of 7 * 114 / 100", x.burns(0, 0, 1), 126);
        x.damp(0, 99, 15);
        check.due("floor of 7 * 115 / 100", x.burns(0, 0, 1), 127);
        check.due("damp 0", x.damp(1, 1, 0), 1);
        check.due("dry again", x.burns(0, 0, 1), 126);
    }

    /** The hour in which a cell begins tells its damp, with all of it; the last hour goes on. */
    private static void dampHours() {
        SmellHours x = new SmellHours();
        Check.lineClock(x, 0, 3, 0);
        x.damp(1, 2, 50);
        x.light(0, 0, 59);
        check.due("begun ahead of the hour", x.burns(0, 0, 1), 69);
        check.due("begun in it", x.burns(0, 1, 1), 84);
        x.light(0, 0, 60);
        check.due("begun as it begins", x.burns(0, 0, 1), 75);
        x.light(0, 0, 179);
        check.due("begun at its last tick", x.burns(0, 0, 1), 194);
        check.due("begun behind it", x.burns(0, 1, 1), 204);
        x.damp(99, 99, 20);
        x.light(0, 0, 5939);
        check.due("begun in hour 98", x.burns(0, 0, 1), 5949);
        check.due("begun in hour 99", x.burns(0, 1, 1), 5961);
        x.light(0, 0, 5999);
        check.due("begun at tick 5999", x.burns(0, 0, 1), 6011);
        check.due("begun later than that", x.burns(0, 1, 1), 6023);
    }

    private static void brings() {
        SmellHours x = new SmellHours();
        check.due("bring 99", x.bring(3, 7, 99), 99);
        check.due("bring 1", x.bring(3, 7, 1), 100);
        check.due("bring 0", x.bring(3, 7, 0), Check.OUTSIDE);
        check.due("bring 100", x.bring(3, 7, 100), Check.OUTSIDE);
        check.due("bring jar 4", x.bring(4, 7, 0), Check.UNKNOWN);
        check.due("bring jar -1", x.bring(-1, 7, 1), Check.UNKNOWN);
        check.due("bring powder 8", x.bring(0, 8, 1), Check.UNKNOWN);
        check.due("bring powder -1", x.bring(0, -1, 1), Check.UNKNOWN);
        for (int k = 0; k < 9; k++) {
            x.bring(3, 7, 99);
        }
        check.due("991 so far", x.jar(3, 7), 991);
        check.due("bring 9 more", x.bring(3, 7, 9), Check.FULL);
        check.due("full changes nothing", x.jar(3, 7), 991);
        check.due("bring 8 more", x.bring(3, 7, 8), 999);
        check.due("bring 1 more", x.bring(3, 7, 1), Check.FULL);
        check.due("another powder", x.bring(3, 6, 1), 1);
        check.due("another jar", x.bring(2, 7, 1), 1);
        for (int wild : Check.WILD) {
            check.due("bring wild jar", x.bring(wild, 0, 1), Check.UNKNOWN);
            check.due("bring wild powder", x.bring(0, wild, 1), Check.UNKNOWN);
            check.due("bring wild n", x.bring(0, 0, wild), Check.OUTSIDE);
        }
        check.due("weighed", x.weighed(Check.NONE, 0), 1001);
    }

    private static void jars() {
        SmellHours x = new SmellHours();
        x.bring(1, 2, 5);
        check.due("jar 1 2", x.jar(1, 2), 5);
        check.due("jar 2 1", x.jar(2, 1), 0);
        check.due("jar 1 1", x.jar(1, 1), 0);
        check.due("jar 4", x.jar(4, 0), Check.UNKNOWN);
        check.due("jar -1", x.jar(-1, 0), Check.UNKNOWN);
        check.due("jar powder 8", x.jar(0, 8), Check.UNKNOWN);
        check.due("jar powder -1", x.jar(0, -1), Check.UNKNOWN);
        for (int wild : Check.WILD) {
            check.due("jar wild", x.jar(wild, 0), Check.UNKNOWN);
            check.due("jar wild powder", x.jar(0, wild), Check.UNKNOWN);
        }
    }

    private static void pours() {
        SmellHours x = new SmellHours();
        x.bring(0, 5, 20);
        check.due("pour 20", x.pour(0, 3, 5, 20), 1);
        check.due("from", x.jar(0, 5), 0);
        check.due("to", x.jar(3, 5), 20);
        check.due("pour from an empty one", x.pour(0, 3, 5, 1), Check.NOT);
        check.due("pour 21", x.pour(3, 0, 5, 21), Check.NOT);
        check.due("pour another powder", x.pour(3, 0, 4, 1), Check.NOT);
        check.due("pour to itself", x.pour(3, 3, 5, 1), Check.OUTSIDE);
        check.due("pour 0", x.pour(3, 0, 5, 0), Check.OUTSIDE);
        check.due("pour 100", x.pour(3, 0, 5, 100), Check.OUTSIDE);
        check.due("pour from 4", x.pour(4, 4, 5, 1), Check.UNKNOWN);
        check.due("pour from -1", x.pour(-1, 0, 5, 1), Check.UNKNOWN);
        check.due("pour to 4", x.pour(3, 4, 5, 0), Check.UNKNOWN);
        check.due("pour to -1", x.pour(3, -1, 5, 1), Check.UNKNOWN);
        check.due("pour powder 8", x.pour(3, 3, 8, 1), Check.UNKNOWN);
        check.due("pour powder -1", x.pour(3, 0, -1, 1), Check.UNKNOWN);
        for (int k = 0; k < 10; k++) {
            x.bring(1, 5, 99);
        }
        check.due("pour 10 into 990", x.pour(3, 1, 5, 10), Check.FULL);
        check.due("pour 21 into 990", x.pour(3, 1, 5, 21), Check.NOT);
        check.due("from stays", x.jar(3, 5), 20);
        check.due("to stays", x.jar(1, 5), 990);
        check.due("pour 9 into 990", x.pour(3, 1, 5, 9), 1);
        check.due("999 there", x.jar(1, 5), 999);
        check.due("11 here", x.jar(3, 5), 11);
        for (int wild : Check.WILD) {
            check.due("pour wild from", x.pour(wild, 0, 5, 1), Check.UNKNOWN);
            check.due("pour wild to", x.pour(3, wild, 5, 1), Check.UNKNOWN);
            check.due("pour wild powder", x.pour(3, 0, wild, 1), Check.UNKNOWN);
            check.due("pour wild n", x.pour(3, 0, 5, wild), Check.OUTSIDE);
        }
    }

    private static void weights(String when, SmellHours x, int powder, int jars, int cells, int ashes) {
        check.due(when + ": brought of " + powder, x.weighed(powder, 0), jars + cells + ashes);
        check.due(when + ": in jars of " + powder, x.weighed(powder, 1), jars);
        check.due(when + ": in cells of " + powder, x.weighed(powder, 2), cells);
        check.due(when + ": ashes of " + powder, x.weighed(powder, 3), ashes);
    }

    private static void weighs() {
        SmellHours x = new SmellHours();
        x.bring(0, 1, 10);
        x.bring(2, 1, 5);
        x.bring(3, 6, 7);
        Check.line(x, 0, 4);
        x.mount(0, 0);
        x.mount(3, 0);
        x.lay(0, 0, 1, 0);
        x.lay(0, 1, 6, 3);
        x.lay(3, 3, 1, 2);
        weights("laid", x, 1, 13, 2, 0);
        weights("laid", x, 6, 6, 1, 0);
        weights("laid", x, 0, 0, 0, 0);
        weights("laid", x, Check.NONE, 19, 3, 0);
        x.light(0, 0, 0);
        weights("lit", x, 1, 13, 2, 0);
        x.dawn();
        weights("burnt", x, 1, 13, 1, 1);
        weights("burnt", x, 6, 6, 0, 1);
        weights("burnt", x, Check.NONE, 19, 1, 2);
        x.sweep(3, 1);
        weights("swept", x, 1, 14, 0, 1);
        check.due("weighed 8", x.weighed(8, 4), Check.UNKNOWN);
        check.due("weighed -2", x.weighed(-2, 0), Check.UNKNOWN);
        check.due("weighed what -1", x.weighed(-1, -1), Check.OUTSIDE);
        check.due("weighed what 4", x.weighed(0, 4), Check.OUTSIDE);
        for (int wild : Check.WILD) {
            check.due("weighed wild", x.weighed(wild, 0), Check.UNKNOWN);
            check.due("weighed wild what", x.weighed(0, wild), Check.OUTSIDE);
        }
    }
}
