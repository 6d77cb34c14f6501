import java.util.ArrayList;
import java.util.List;
import java.util.function.ToIntFunction;

/**
 * Of several refusals the first in their order is answered, and what is refused changes nothing: after each refused
 * call an object answers every question as one that was never asked for it.
 */
public final class RefusalTest {
    private static final Check check = new Check();
    private static final int UNKNOWN = Check.UNKNOWN, OUTSIDE = Check.OUTSIDE, NOT = Check.NOT, FULL = Check.FULL, SPENT = Check.SPENT;
    private static List<Integer> untouched;

    public static void main(String[] args) {
        untouched = answers(world());
        seals();
        draws();
        powders();
        clocks();
        fillings();
        nights();
        bells();
        gones();
        watches();
        callsThatAreTaken();
        check.end();
    }

    /** An object in which much is laid, lit, heard and told, and links, agains, balls, a jar and the text are full. */
    private static SmellHours world() {
        SmellHours x = new SmellHours();
        x.board(0, 3, 2);
        x.bar(0, 2, true);
        go(x, 0, 0, 1, 4, 3);
        x.board(1, 6, 1);
        go(x, 1, 0, 1, 2, 3, 4, 5);
        x.board(2, 2, 2);
        x.bar(2, 3, true);
        x.board(3, 4, 4);
        x.bound(100);
        x.draw(3, 0, 15, 7, true, 0);
        x.mount(0, 1);
        x.mount(1, 0);
        x.mount(2, 1);
        fillJars(x);
        light(x);
        for (int k = 0; k < 24; k++) {
            x.hear(5 + 9 * k);
        }
        x.season(45);
        feed(x, "watch 3 bell; watch 7 drum,light;");
        x.read();
        feed(x, "watch 4 sweep;");
        for (int k = 0; k < 18; k++) {
            x.feed(8, 0x2020202020202020L);
        }
        x.feed(2, 0x2020);
        return x;
    }

    private static void go(SmellHours x, int s, int... squares) {
        for (int square : squares) {
            x.go(s, square);
        }
    }

    private static void feed(SmellHours x, String text) {
        Check.feed(x, text);
    }

    private static void fillJars(SmellHours x) {
        x.bring(0, 1, 20);
        x.bring(1, 0, 20);
        x.bring(2, 7, 5);
        x.bring(0, 0, 9);
        for (int k = 0; k < 10; k++) {
            x.bring(0, 0, 99);
        }
        x.lay(0, 0, 1, 0);
        x.lay(0, 1, 1, 0);
        x.lay(0, 2, 1, 0);
        x.lay(0, 4, 0, 0);
        for (int i = 0; i < 4; i++) {
            x.lay(1, i, 0, 1);
        }
        x.bring(0, 0, 1);
        x.rate(1, 7);
        x.rate(0, 13);
        x.damp(0, 3, 20);
        x.damp(99, 99, 11);
        x.row(0, 2);
        x.row(1, 1);
        x.row(11, 7);
    }

    private static void light(SmellHours x) {
        x.light(0, 0, 5);
        x.light(1, 3, 40);
        for (int k = 0; k < 6; k++) {
            x.link(0, k % 3, 2);
            x.link(1, k % 4, 0);
        }
        for (int k = 0; k < 12; k++) {
            x.again(k % 2, 4 * (1 - k % 2), 100 - k);
            x.hang(k % 3, 1 + k % 2);
        }
    }

    /** Every question that changes nothing, then those that do. */
    private static List<Integer> answers(SmellHours x) {
        List<Integer> all = new ArrayList<>();
        askSeals(x, all);
        askGrains(x, all);
        askNight(x, all);
        askBells(x, all);
        for (int what = 0; what < 8; what++) {
            all.add(x.count(what));
        }
        for (int k = 0; k < 12; k++) {
            all.add(x.words(k));
        }
        all.add(x.fault());
        all.add(x.watch(300, 1));
        askForGood(x, all);
        return all;
    }

    private static void askSeals(SmellHours x, List<Integer> all) {
        all.add(x.looks());
        for (int s = 0; s < 4; s++) {
            for (int what = 0; what < 7; what++) {
                all.add(x.told(s, what));
            }
            for (int i = 0; i < 8; i++) {
                all.add(x.at(s, i));
            }
        }
    }

    private static void askGrains(SmellHours x, List<Integer> all) {
        for (int p = 0; p < 8; p++) {
            for (int jar = 0; jar < 4; jar++) {
                all.add(x.jar(jar, p));
            }
            all.add(x.weighed(p, 3));
        }
        for (int c = 0; c < 4; c++) {
            for (int i = 0; i < 7; i++) {
                all.add(x.grain(c, i));
            }
        }
    }

    private static void askNight(SmellHours x, List<Integer> all) {
        for (int c = 0; c < 3; c++) {
            for (int what = 0; what < 4; what++) {
                all.add(x.night(c, what));
            }
            for (int i = 0; i < 6; i++) {
                all.add(x.burns(c, i, 0));
                all.add(x.burns(c, i, 1));
            }
            all.add(x.scent(c, 20));
            all.add(x.spills(c, 0, 12));
        }
    }

    private static void askBells(SmellHours x, List<Integer> all) {
        for (int ball = 0; ball < 12; ball++) {
            all.add(x.drops(ball));
        }
        for (int c = 0; c < 3; c++) {
            all.add(x.cost(c));
            all.add(x.slow(c, 0));
            all.add(x.gone(c, 0, 5999, 0, 300, 60, 2));
        }
        int[] hours = {0, 1, 3, 4, 50, 98, 99};
        for (int hour : hours) {
            all.add(x.gone(1, 0, 5999, 60 * hour, 60 * hour, 0, 0));
        }
    }

    private static void askForGood(SmellHours x, List<Integer> all) {
        all.add(x.bound(5000));
        for (int p = 0; p < 8; p++) {
            all.add(x.rate(p, 1));
        }
        for (int k = 0; k < 12; k++) {
            all.add(x.row(k, 0));
        }
        all.add(x.read());
        for (int k = 0; k < 12; k++) {
            all.add(x.words(k));
        }
        all.add(x.season(60));
        all.add(x.hush());
        all.add(x.dawn());
        all.add(x.weighed(Check.NONE, 3));
        all.add(x.calm());
    }

    private static void refused(String call, int due, ToIntFunction<SmellHours> asked) {
        SmellHours x = world();
        check.due(call, asked.applyAsInt(x), due);
        check.holds(call + " changes nothing", answers(x).equals(untouched));
    }

    private static void seals() {
        refused("board of no seal", UNKNOWN, x -> x.board(6, 2, 2));
        refused("board of no seal, outside", UNKNOWN, x -> x.board(-1, 0, 7));
        refused("board too wide", OUTSIDE, x -> x.board(0, 7, 2));
        refused("board too high", OUTSIDE, x -> x.board(0, 2, 0));
        refused("bar of no seal, outside", UNKNOWN, x -> x.bar(6, -1, true));
        refused("bar of no square", OUTSIDE, x -> x.bar(0, 6, true));
        refused("bar in the path", NOT, x -> x.bar(0, 4, true));
        refused("unbar in the path", NOT, x -> x.bar(0, 4, false));
        refused("go in no seal, outside", UNKNOWN, x -> x.go(6, 9));
        refused("go to no square", OUTSIDE, x -> x.go(0, 6));
        refused("go to a barred one", NOT, x -> x.go(0, 2));
        refused("go to one of the path", NOT, x -> x.go(0, 0));
        refused("go to one that is no neighbour", NOT, x -> x.go(0, 5));
        refused("go to a barred one first", NOT, x -> x.go(2, 3));
        refused("wipe of no seal", UNKNOWN, x -> x.wipe(6));
        refused("told of no seal, outside", UNKNOWN, x -> x.told(6, 7));
        refused("told of nothing", OUTSIDE, x -> x.told(0, 7));
        refused("at of no seal", UNKNOWN, x -> x.at(6, 99));
        refused("bound below", OUTSIDE, x -> x.bound(99));
        refused("bound above", OUTSIDE, x -> x.bound(20001));
    }

    /** LOOKS is of the latest draw that was not UNKNOWN or OUTSIDE, so the first answer differs behind a NOT or SPENT. */
    private static void drawn(String call, int due, int looks, ToIntFunction<SmellHours> asked) {
        SmellHours x = world();
        check.due(call, asked.applyAsInt(x), due);
        List<Integer> all = answers(x);
        check.due(call + ", its looks", all.get(0), looks);
        all.set(0, untouched.get(0));
        check.holds(call + " changes nothing but looks", all.equals(untouched));
    }

    private static void draws() {
        refused("draw in no seal, outside, barred", UNKNOWN, x -> x.draw(6, 2, 2, 0, true, 4));
        refused("draw from no square, barred", OUTSIDE, x -> x.draw(0, 6, 2, 2, true, 0));
        refused("draw to no square, barred", OUTSIDE, x -> x.draw(0, 2, -1, 2, true, 0));
        refused("draw of no length, barred", OUTSIDE, x -> x.draw(0, 0, 2, 0, true, 0));
        refused("draw too long, barred", OUTSIDE, x -> x.draw(0, 0, 2, 7, true, 0));
        refused("draw of no kind, barred", OUTSIDE, x -> x.draw(0, 2, 0, 2, true, 4));
        refused("draw of no kind, that would be spent", OUTSIDE, x -> x.draw(3, 0, 3, 16, true, -1));
        drawn("draw from a barred one", NOT, 0, x -> x.draw(0, 2, 0, 2, true, 0));
        drawn("draw to a barred one", NOT, 0, x -> x.draw(0, 0, 2, 3, true, 0));
        drawn("draw of none", NOT, 2, x -> x.draw(0, 0, 5, 2, true, 0));
        drawn("draw round", NOT, 0, x -> x.draw(0, 0, 0, 4, false, 0));
        drawn("draw that is spent", SPENT, 100, x -> x.draw(3, 0, 3, 16, true, 0));
    }

    private static void powders() {
        refused("rate of no powder, outside", UNKNOWN, x -> x.rate(8, 0));
        refused("rate below", OUTSIDE, x -> x.rate(1, 0));
        refused("rate above", OUTSIDE, x -> x.rate(1, 61));
        refused("damp of no hour", OUTSIDE, x -> x.damp(-1, 3, 5));
        refused("damp to no hour", OUTSIDE, x -> x.damp(3, 100, 5));
        refused("damp back", OUTSIDE, x -> x.damp(3, 2, 5));
        refused("damp above", OUTSIDE, x -> x.damp(0, 99, 51));
        refused("bring into no jar, outside", UNKNOWN, x -> x.bring(4, 0, 0));
        refused("bring no powder, outside", UNKNOWN, x -> x.bring(0, 8, 100));
        refused("bring none, into a full jar", OUTSIDE, x -> x.bring(0, 0, 0));
        refused("bring too many, into a full jar", OUTSIDE, x -> x.bring(0, 0, 100));
        refused("bring into a full jar", FULL, x -> x.bring(0, 0, 1));
        refused("jar of none", UNKNOWN, x -> x.jar(4, 0));
        refused("jar of no powder", UNKNOWN, x -> x.jar(0, 8));
        refused("pour from no jar to itself", UNKNOWN, x -> x.pour(4, 4, 0, 0));
        refused("pour to no jar, outside", UNKNOWN, x -> x.pour(0, -1, 0, 100));
        refused("pour no powder to itself", UNKNOWN, x -> x.pour(0, 0, 8, 1));
        refused("pour none of what is not there", OUTSIDE, x -> x.pour(3, 0, 0, 0));
        refused("pour too many of what is not there", OUTSIDE, x -> x.pour(3, 0, 0, 100));
        refused("pour to itself what is not there", OUTSIDE, x -> x.pour(3, 3, 0, 1));
        refused("pour what is not there into a full jar", NOT, x -> x.pour(3, 0, 0, 1));
        refused("pour more than there are", NOT, x -> x.pour(1, 3, 0, 17));
        refused("pour into a full jar", FULL, x -> x.pour(1, 0, 0, 16));
        refused("weighed of no powder, outside", UNKNOWN, x -> x.weighed(8, 4));
        refused("weighed of nothing", OUTSIDE, x -> x.weighed(Check.NONE, 4));
    }

    private static void clocks() {
        refused("mount of no clock", UNKNOWN, x -> x.mount(4, 1));
        refused("mount of no seal, with grains", UNKNOWN, x -> x.mount(0, 6));
        refused("mount with grains", NOT, x -> x.mount(0, 1));
        refused("mount without a path", NOT, x -> x.mount(2, 2));
        refused("mount of none yet, without a path", NOT, x -> x.mount(3, 4));
        refused("lay into no clock", UNKNOWN, x -> x.lay(4, 0, 0, 0));
        refused("lay into no cell", UNKNOWN, x -> x.lay(0, 6, 0, 0));
        refused("lay no powder where a grain is", UNKNOWN, x -> x.lay(0, 0, 8, 0));
        refused("lay from no jar where a grain is", UNKNOWN, x -> x.lay(0, 0, 0, 4));
        refused("lay where a grain is", NOT, x -> x.lay(0, 0, 0, 0));
        refused("lay what is not there", NOT, x -> x.lay(0, 3, 0, 3));
        refused("grain of no clock", UNKNOWN, x -> x.grain(4, 0));
        refused("grain of no cell", UNKNOWN, x -> x.grain(0, 6));
        refused("sweep of no clock into a full jar", UNKNOWN, x -> x.sweep(4, 0));
        refused("sweep into no jar", UNKNOWN, x -> x.sweep(0, 4));
        refused("sweep into a full jar", FULL, x -> x.sweep(0, 0));
        refused("row of no powder, outside", UNKNOWN, x -> x.row(12, 8));
        refused("row outside", OUTSIDE, x -> x.row(12, 0));
    }

    private static void fillings() {
        refused("fill of no clock, outside", UNKNOWN, x -> x.fill(4, 0, 13));
        refused("fill of no hours, with grains", OUTSIDE, x -> x.fill(0, 0, 0));
        refused("fill of too many hours", OUTSIDE, x -> x.fill(2, 0, 13));
        refused("fill too late, with grains", OUTSIDE, x -> x.fill(0, 99, 1));
        refused("fill too early, without grains for it", OUTSIDE, x -> x.fill(2, -1, 1));
        refused("fill with grains", NOT, x -> x.fill(0, 0, 1));
        refused("fill without grains for it", NOT, x -> x.fill(2, 0, 1));
        refused("spills of no clock, outside", UNKNOWN, x -> x.spills(4, 99, 0));
        refused("spills of no hours", OUTSIDE, x -> x.spills(0, 0, 0));
        refused("spills too late", OUTSIDE, x -> x.spills(0, 99, 1));
    }

    private static void nights() {
        refused("light of no clock, outside", UNKNOWN, x -> x.light(4, 0, 6000));
        refused("light at no cell, outside", UNKNOWN, x -> x.light(0, 6, 6000));
        refused("light at no cell, no hand", UNKNOWN, x -> x.light(0, 6, Check.NONE));
        refused("light too late", OUTSIDE, x -> x.light(0, 1, 6000));
        refused("light too early", OUTSIDE, x -> x.light(0, 1, -2));
        refused("link from no clock, when full", UNKNOWN, x -> x.link(4, 0, 0));
        refused("link from no cell to itself, when full", UNKNOWN, x -> x.link(0, 6, 0));
        refused("link to no clock, when full", UNKNOWN, x -> x.link(0, 0, 4));
        refused("link to a clock without cells, when full", UNKNOWN, x -> x.link(0, 0, 3));
        refused("link to itself, when full", OUTSIDE, x -> x.link(0, 0, 0));
        refused("link when full", FULL, x -> x.link(0, 0, 1));
        refused("again of no clock, outside, when full", UNKNOWN, x -> x.again(4, 0, 6000));
        refused("again at no cell, outside, when full", UNKNOWN, x -> x.again(0, 6, -1));
        refused("again too late, when full", OUTSIDE, x -> x.again(0, 0, 6000));
        refused("again too early, when full", OUTSIDE, x -> x.again(0, 0, -1));
        refused("again when full", FULL, x -> x.again(0, 0, 0));
        refused("night of no clock, outside", UNKNOWN, x -> x.night(4, 4));
        refused("night of nothing", OUTSIDE, x -> x.night(0, 4));
        refused("burns of no clock, outside", UNKNOWN, x -> x.burns(4, 0, 2));
        refused("burns of no cell, outside", UNKNOWN, x -> x.burns(0, 6, 2));
        refused("burns of nothing", OUTSIDE, x -> x.burns(0, 0, 2));
        refused("scent of no clock, outside", UNKNOWN, x -> x.scent(4, -1));
        refused("scent too late", OUTSIDE, x -> x.scent(0, 20001));
    }

    private static void bells() {
        refused("hang in no clock, when full", UNKNOWN, x -> x.hang(4, 0));
        refused("hang at no cell, when full", UNKNOWN, x -> x.hang(0, 6));
        refused("hang when full", FULL, x -> x.hang(0, 0));
        refused("drops of no ball", UNKNOWN, x -> x.drops(12));
        refused("hear too late, when full", OUTSIDE, x -> x.hear(20001));
        refused("hear below the one ahead, when full", OUTSIDE, x -> x.hear(211));
        refused("hear when full", FULL, x -> x.hear(212));
        refused("cost of no clock", UNKNOWN, x -> x.cost(4));
        refused("slow of no clock, outside", UNKNOWN, x -> x.slow(4, 2));
        refused("slow of nothing", OUTSIDE, x -> x.slow(0, 2));
    }

    /** Cell 3 of clock 0 is bare. */
    private static void gones() {
        refused("gone of no clock, outside", UNKNOWN, x -> x.gone(4, 0, 6000, 9, 0, 61, 3));
        refused("gone of no cell, outside", UNKNOWN, x -> x.gone(0, 6, -1, 9, 0, 61, 3));
        refused("gone too late, bare", OUTSIDE, x -> x.gone(0, 3, 6000, 0, 0, 0, 0));
        refused("gone from too early, bare", OUTSIDE, x -> x.gone(0, 3, 0, -1, 0, 0, 0));
        refused("gone to too late, bare", OUTSIDE, x -> x.gone(0, 3, 0, 5999, 6000, 0, 0));
        refused("gone back, bare", OUTSIDE, x -> x.gone(0, 3, 0, 1, 0, 0, 0));
        refused("gone too far apart, bare", OUTSIDE, x -> x.gone(0, 3, 0, 0, 301, 0, 0));
        refused("gone too wide, bare", OUTSIDE, x -> x.gone(0, 3, 0, 0, 0, 61, 0));
        refused("gone of nothing, bare", OUTSIDE, x -> x.gone(0, 3, 0, 0, 0, 0, 3));
        refused("gone, bare", NOT, x -> x.gone(0, 3, 0, 0, 0, 0, 0));
        refused("gone, bare ahead of it", NOT, x -> x.gone(0, 4, 5999, 0, 300, 60, 2));
    }

    private static void watches() {
        refused("season below", OUTSIDE, x -> x.season(29));
        refused("season above", OUTSIDE, x -> x.season(91));
        refused("watch too late", OUTSIDE, x -> x.watch(20001, 0));
        refused("watch of nothing", OUTSIDE, x -> x.watch(0, 3));
        refused("feed none, when full", OUTSIDE, x -> x.feed(0, 'x'));
        refused("feed too many, when full", OUTSIDE, x -> x.feed(9, 'x'));
        refused("feed when full", FULL, x -> x.feed(1, 'x'));
        refused("words of no watch", OUTSIDE, x -> x.words(12));
        refused("due too late", OUTSIDE, x -> x.due(20001));
        refused("count of nothing", OUTSIDE, x -> x.count(8));
    }

    /** So that the answers would tell a change: each call that is taken is seen in them. */
    private static void callsThatAreTaken() {
        taken("board", x -> x.board(0, 3, 2));
        taken("bar", x -> x.bar(0, 5, true));
        taken("go", x -> x.go(2, 1));
        taken("wipe", x -> x.wipe(0));
        taken("draw", x -> x.draw(3, 0, 1, 2, true, 0));
        taken("bound", x -> x.bound(101));
        taken("rate", x -> x.rate(1, 8));
        taken("damp", x -> x.damp(50, 50, 20));
        taken("bring", x -> x.bring(3, 0, 1));
        taken("pour", x -> x.pour(1, 3, 0, 1));
        taken("mount", x -> x.mount(2, 0));
        taken("lay", x -> x.lay(0, 3, 1, 0));
        taken("sweep", x -> x.sweep(0, 3));
        taken("row", x -> x.row(11, 6));
        taken("fill", x -> x.row(0, 1) + x.fill(2, 0, 1));
        taken("light", x -> x.light(0, 1, 6));
        taken("calm", SmellHours::calm);
        taken("dawn", SmellHours::dawn);
        taken("hush", SmellHours::hush);
        taken("season", x -> x.season(46));
        taken("read", SmellHours::read);
    }

    private static void taken(String call, ToIntFunction<SmellHours> asked) {
        SmellHours x = world();
        check.holds(call + " is taken", asked.applyAsInt(x) >= 0);
        check.holds(call + " is seen", !answers(x).equals(untouched));
    }
}
