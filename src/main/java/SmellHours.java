import java.util.Arrays;

/** Clocks of powder laid in a winding groove and lit; see README.md and the document's promises. */
public final class SmellHours {
    public static final int NONE = -1, UNKNOWN = -1001, OUTSIDE = -1002, NOT = -1003, FULL = -1004, SPENT = -1005;

    private static final int SEALS = 6, MOST_SIDE = 6, SQUARES = 36, SIDES = 4, KINDS = 3;
    private static final int LEAST_BOUND = 100, MOST_BOUND = 20000, FIRST_BOUND = 5000;
    private static final int POWDERS = 8, JARS = 4, MOST_RATE = 60, FIRST_RATE = 10;
    private static final int MOST_MOVED = 99, MOST_IN_JAR = 999;
    private static final int HOURS = 100, HOUR_TICKS = 60, MOST_DAMP = 50;
    private static final int CLOCKS = 4, LINKS = 12, AGAINS = 12, ROW = 12;
    private static final int LAST_NIGHT_TICK = 5999, LAST_TICK = 20000;
    private static final int BALLS = 12, HEARINGS = 24, LEFT_OUT = 20, MOST_APART = 300, MOST_WIDTH = 60;
    private static final int WATCHES = 12, NIGHT_WATCHES = 6, ROUND = 720, BOTH_HOURS = 120;
    private static final int LEAST_SEASON = 30, MOST_SEASON = 90, FIRST_SEASON = 60;
    private static final int TEXT = 160, FED = 8;

    private final Seal[] seals = new Seal[SEALS];
    private final Search search = new Search();
    private final Air air = new Air();
    private final Store store = new Store();
    private final Night night = new Night();
    private final Bells bells = new Bells();
    private final Rule rule = new Rule();
    private final int[] scents = new int[ROW];
    /** Powders that a clock would be filled with, and ticks of a walk along a path: kept so that no call makes rows. */
    private final int[] plan = new int[SQUARES];
    private final int[] walked = new int[SQUARES];
    private int nightHour = FIRST_SEASON;

    public SmellHours() {
        for (int s = 0; s < SEALS; s++) {
            seals[s] = new Seal();
        }
    }

    // ---- seals

    public int board(int s, int w, int h) {
        Seal seal = sealOf(s);
        if (seal == null) {
            return UNKNOWN;
        }
        if (!isWithin(w, 1, MOST_SIDE) || !isWithin(h, 1, MOST_SIDE)) {
            return OUTSIDE;
        }
        seal.shape(w, h);
        return w * h;
    }

    public int bar(int s, int square, boolean is) {
        Seal seal = sealOf(s);
        if (seal == null) {
            return UNKNOWN;
        }
        if (!seal.has(square)) {
            return OUTSIDE;
        }
        if (seal.place[square] != NONE) {
            return NOT;
        }
        int was = seal.barred[square];
        seal.barred[square] = is ? 1 : 0;
        return was;
    }

    public int go(int s, int square) {
        Seal seal = sealOf(s);
        if (seal == null) {
            return UNKNOWN;
        }
        if (!seal.has(square)) {
            return OUTSIDE;
        }
        if (!seal.canFollow(square)) {
            return NOT;
        }
        seal.append(square);
        return seal.length;
    }

    public int wipe(int s) {
        Seal seal = sealOf(s);
        if (seal == null) {
            return UNKNOWN;
        }
        int was = seal.length;
        seal.clear();
        return was;
    }

    public int draw(int s, int a, int b, int n, boolean sound, int kind) {
        Seal seal = sealOf(s);
        if (seal == null) {
            return UNKNOWN;
        }
        if (!seal.has(a) || !seal.has(b) || !isWithin(n, 1, seal.w * seal.h) || !isWithin(kind, 0, KINDS)) {
            return OUTSIDE;
        }
        return search.drawOn(seal, a, b, n, sound, kind);
    }

    public int looks() {
        return search.looks;
    }

    public int bound(int v) {
        if (!isWithin(v, LEAST_BOUND, MOST_BOUND)) {
            return OUTSIDE;
        }
        int was = search.bound;
        search.bound = v;
        return was;
    }

    public int told(int s, int what) {
        Seal seal = sealOf(s);
        if (seal == null) {
            return UNKNOWN;
        }
        switch (what) {
            case 0: return seal.w;
            case 1: return seal.h;
            case 2: return seal.barredSquares();
            case 3: return seal.length;
            case 4: return seal.touchingPairs() == 0 ? 1 : 0;
            case 5: return seal.likenesses();
            case 6: return seal.touchingPairs();
            default: return OUTSIDE;
        }
    }

    public int at(int s, int i) {
        Seal seal = sealOf(s);
        if (seal == null) {
            return UNKNOWN;
        }
        return i >= 0 && i < seal.length ? seal.path[i] : NONE;
    }

    // ---- powders

    public int rate(int powder, int v) {
        if (!isPowder(powder)) {
            return UNKNOWN;
        }
        if (!isWithin(v, 1, MOST_RATE)) {
            return OUTSIDE;
        }
        int was = air.rates[powder];
        air.rates[powder] = v;
        night.known = false;
        return was;
    }

    public int damp(int a, int b, int d) {
        if (!isWithin(a, 0, HOURS - 1) || !isWithin(b, a, HOURS - 1) || !isWithin(d, 0, MOST_DAMP)) {
            return OUTSIDE;
        }
        for (int hour = a; hour <= b; hour++) {
            air.damps[hour] = d;
        }
        night.known = false;
        return 1;
    }

    public int bring(int jar, int powder, int n) {
        if (!isJar(jar) || !isPowder(powder)) {
            return UNKNOWN;
        }
        if (!isWithin(n, 1, MOST_MOVED)) {
            return OUTSIDE;
        }
        if (store.inJar(jar, powder) + n > MOST_IN_JAR) {
            return FULL;
        }
        store.add(jar, powder, n);
        return store.inJar(jar, powder);
    }

    public int jar(int jar, int powder) {
        if (!isJar(jar) || !isPowder(powder)) {
            return UNKNOWN;
        }
        return store.inJar(jar, powder);
    }

    public int pour(int from, int to, int powder, int n) {
        if (!isJar(from) || !isJar(to) || !isPowder(powder)) {
            return UNKNOWN;
        }
        if (!isWithin(n, 1, MOST_MOVED) || from == to) {
            return OUTSIDE;
        }
        if (store.inJar(from, powder) < n) {
            return NOT;
        }
        if (store.inJar(to, powder) + n > MOST_IN_JAR) {
            return FULL;
        }
        store.add(from, powder, -n);
        store.add(to, powder, n);
        return 1;
    }

    public int weighed(int powder, int what) {
        if (powder != NONE && !isPowder(powder)) {
            return UNKNOWN;
        }
        if (!isWithin(what, 0, 3)) {
            return OUTSIDE;
        }
        int sum = 0;
        for (int p = 0; p < POWDERS; p++) {
            if (powder == NONE || powder == p) {
                sum += weightOf(p, what);
            }
        }
        return sum;
    }

    // ---- clocks

    public int mount(int c, int s) {
        Clock clock = night.clockOf(c);
        Seal seal = sealOf(s);
        if (clock == null || seal == null) {
            return UNKNOWN;
        }
        if (clock.grains() > 0 || seal.length == 0) {
            return NOT;
        }
        clock.takePath(seal);
        night.forget(c);
        bells.forget(c);
        return clock.cells;
    }

    public int lay(int c, int i, int powder, int jar) {
        Clock clock = night.clockOf(c);
        if (clock == null || !clock.hasCell(i) || !isPowder(powder) || !isJar(jar)) {
            return UNKNOWN;
        }
        if (clock.powders[i] != NONE || store.inJar(jar, powder) < 1) {
            return NOT;
        }
        store.add(jar, powder, -1);
        clock.powders[i] = powder;
        night.known = false;
        return store.inJar(jar, powder);
    }

    public int grain(int c, int i) {
        Clock clock = night.clockOf(c);
        if (clock == null || !clock.hasCell(i)) {
            return UNKNOWN;
        }
        return clock.powders[i];
    }

    public int sweep(int c, int jar) {
        Clock clock = night.clockOf(c);
        if (clock == null || !isJar(jar)) {
            return UNKNOWN;
        }
        for (int p = 0; p < POWDERS; p++) {
            if (store.inJar(jar, p) + clock.grainsOf(p) > MOST_IN_JAR) {
                return FULL;
            }
        }
        int swept = clock.grains();
        for (int p = 0; p < POWDERS; p++) {
            store.add(jar, p, clock.grainsOf(p));
        }
        clock.makeBare();
        night.known = false;
        return swept;
    }

    public int row(int k, int powder) {
        if (!isPowder(powder)) {
            return UNKNOWN;
        }
        if (!isWithin(k, 0, ROW - 1)) {
            return OUTSIDE;
        }
        int was = scents[k];
        scents[k] = powder;
        return was;
    }

    public int fill(int c, int s, int n) {
        Clock clock = night.clockOf(c);
        if (clock == null) {
            return UNKNOWN;
        }
        if (!areHours(s, n)) {
            return OUTSIDE;
        }
        if (clock.grains() > 0) {
            return NOT;
        }
        int filled = planFilling(clock.cells, s, n);
        if (!store.hasAll(plan, filled)) {
            return NOT;
        }
        for (int i = 0; i < filled; i++) {
            store.takeOne(plan[i]);
            clock.powders[i] = plan[i];
        }
        night.known = false;
        return filled;
    }

    public int spills(int c, int s, int n) {
        Clock clock = night.clockOf(c);
        if (clock == null) {
            return UNKNOWN;
        }
        if (!areHours(s, n)) {
            return OUTSIDE;
        }
        night.know(air);
        int sum = 0;
        for (int k = 0; k < n; k++) {
            sum += clock.ticksUnlike(scents[k], (s + k) * HOUR_TICKS);
        }
        return sum;
    }

    // ---- the night

    public int light(int c, int i, int tick) {
        Clock clock = night.clockOf(c);
        if (clock == null || !clock.hasCell(i)) {
            return UNKNOWN;
        }
        if (!isWithin(tick, NONE, LAST_NIGHT_TICK)) {
            return OUTSIDE;
        }
        clock.handTick = tick;
        clock.handCell = i;
        night.known = false;
        return 1;
    }

    public int link(int b, int i, int c) {
        Clock source = night.clockOf(b);
        Clock target = night.clockOf(c);
        if (source == null || !source.hasCell(i)) {
            return UNKNOWN;
        }
        // A link lights cell 0, which a clock that was never mounted has not.
        if (target == null || !target.hasCell(0)) {
            return UNKNOWN;
        }
        if (b == c) {
            return OUTSIDE;
        }
        if (night.links >= LINKS) {
            return FULL;
        }
        night.addLink(b, i, c);
        return night.links;
    }

    public int again(int c, int i, int tick) {
        Clock clock = night.clockOf(c);
        if (clock == null || !clock.hasCell(i)) {
            return UNKNOWN;
        }
        if (!isNightTick(tick)) {
            return OUTSIDE;
        }
        if (night.agains >= AGAINS) {
            return FULL;
        }
        night.addAgain(c, i, tick);
        return night.agains;
    }

    public int calm() {
        int were = night.links + night.agains;
        night.forgetAll();
        return were;
    }

    public int night(int c, int what) {
        Clock clock = night.clockOf(c);
        if (clock == null) {
            return UNKNOWN;
        }
        night.know(air);
        switch (what) {
            case 0: return clock.litTick;
            case 1: return clock.outTick;
            case 2: return clock.burntCells();
            case 3: return clock.litCell;
            default: return OUTSIDE;
        }
    }

    public int burns(int c, int i, int what) {
        Clock clock = night.clockOf(c);
        if (clock == null || !clock.hasCell(i)) {
            return UNKNOWN;
        }
        if (!isWithin(what, 0, 1)) {
            return OUTSIDE;
        }
        night.know(air);
        return what == 0 ? clock.begins[i] : clock.ends[i];
    }

    public int scent(int c, int tick) {
        Clock clock = night.clockOf(c);
        if (clock == null) {
            return UNKNOWN;
        }
        if (!isWithin(tick, 0, LAST_TICK)) {
            return OUTSIDE;
        }
        night.know(air);
        return clock.powdersBurning(tick);
    }

    public int dawn() {
        night.know(air);
        int burnt = 0;
        for (int c = 0; c < CLOCKS; c++) {
            burnt += turnToAshes(night.clocks[c]);
        }
        night.forgetAll();
        return burnt;
    }

    // ---- bells

    public int hang(int c, int i) {
        Clock clock = night.clockOf(c);
        if (clock == null || !clock.hasCell(i)) {
            return UNKNOWN;
        }
        if (bells.balls >= BALLS) {
            return FULL;
        }
        bells.addBall(c, i);
        return bells.balls - 1;
    }

    public int drops(int ball) {
        if (ball < 0 || ball >= bells.balls) {
            return UNKNOWN;
        }
        night.know(air);
        return bells.dropOf(ball, night);
    }

    public int hear(int tick) {
        if (!isWithin(tick, bells.lastHeard(), LAST_TICK)) {
            return OUTSIDE;
        }
        if (bells.hearings >= HEARINGS) {
            return FULL;
        }
        bells.addHearing(tick);
        return bells.hearings;
    }

    public int hush() {
        int were = bells.hearings;
        bells.hearings = 0;
        return were;
    }

    public int cost(int c) {
        if (night.clockOf(c) == null) {
            return UNKNOWN;
        }
        night.know(air);
        return bells.costOf(c, night);
    }

    public int slow(int c, int what) {
        if (night.clockOf(c) == null) {
            return UNKNOWN;
        }
        if (!isWithin(what, 0, 1)) {
            return OUTSIDE;
        }
        int bestDamp = NONE;
        int bestCost = NONE;
        for (int d = 0; d <= MOST_DAMP; d++) {
            int sum = costWithDamp(c, d);
            if (bestDamp == NONE || sum < bestCost) {
                bestDamp = d;
                bestCost = sum;
            }
        }
        return what == 0 ? bestDamp : bestCost;
    }

    public int gone(int c, int p, int t, int a, int b, int width, int what) {
        Clock clock = night.clockOf(c);
        if (clock == null || !clock.hasCell(p)) {
            return UNKNOWN;
        }
        if (!isNightTick(t) || !isNightTick(a) || !isNightTick(b) || !isWithin(b - a, 0, MOST_APART)
                || !isWithin(width, 0, MOST_WIDTH) || !isWithin(what, 0, 2)) {
            return OUTSIDE;
        }
        if (!clock.isLaidUpTo(p)) {
            return NOT;
        }
        int least = NONE;
        int greatest = NONE;
        int lights = 0;
        for (int tick = a; tick <= b; tick++) {
            int burnt = clock.walk(p, tick, air, walked);
            if (burnt <= t && bells.areHeard(c, p, walked, width)) {
                least = lights == 0 ? burnt : Math.min(least, burnt);
                greatest = Math.max(greatest, burnt);
                lights++;
            }
        }
        return what == 0 ? least : what == 1 ? greatest : lights;
    }

    // ---- seasons, watches

    public int season(int v) {
        if (!isWithin(v, LEAST_SEASON, MOST_SEASON)) {
            return OUTSIDE;
        }
        int was = nightHour;
        nightHour = v;
        return was;
    }

    public int watch(int tick, int what) {
        if (!isWithin(tick, 0, LAST_TICK) || !isWithin(what, 0, 2)) {
            return OUTSIDE;
        }
        int now = watchAt(tick);
        if (what == 0) {
            return now;
        }
        int inRound = tick % ROUND;
        if (what == 1) {
            return tick - inRound + watchBegin(now);
        }
        return watchBegin(now + 1) - inRound;
    }

    public int feed(int n, long bytes) {
        if (!isWithin(n, 1, FED)) {
            return OUTSIDE;
        }
        if (rule.length + n > TEXT) {
            return FULL;
        }
        rule.addBytes(n, bytes);
        return rule.length;
    }

    public int read() {
        return rule.readText();
    }

    public int fault() {
        return rule.faultByte;
    }

    public int words(int watch) {
        if (!isWithin(watch, 0, WATCHES - 1)) {
            return OUTSIDE;
        }
        return rule.sets[watch];
    }

    public int due(int tick) {
        if (!isWithin(tick, 0, LAST_TICK)) {
            return OUTSIDE;
        }
        return rule.sets[watchAt(tick)];
    }

    public int count(int what) {
        switch (what) {
            case 0: return bells.balls;
            case 1: return bells.hearings;
            case 2: return night.links;
            case 3: return night.agains;
            case 4: return night.mountedClocks();
            case 5: return litClocks();
            case 6: return rule.length;
            case 7: return nightHour;
            default: return OUTSIDE;
        }
    }

    // ---- what the calls share

    private static boolean isWithin(int v, int least, int most) {
        return v >= least && v <= most;
    }

    private static boolean isPowder(int powder) {
        return isWithin(powder, 0, POWDERS - 1);
    }

    private static boolean isJar(int jar) {
        return isWithin(jar, 0, JARS - 1);
    }

    private static boolean isNightTick(int tick) {
        return isWithin(tick, 0, LAST_NIGHT_TICK);
    }

    /** Whether a clock can be filled for n hours from hour s on; hour 99 has no end, so it is never among them. */
    private static boolean areHours(int s, int n) {
        return isWithin(n, 1, ROW) && isWithin(s, 0, HOURS - 1 - n);
    }

    private Seal sealOf(int s) {
        return s >= 0 && s < SEALS ? seals[s] : null;
    }

    private int weightOf(int powder, int what) {
        int inJars = store.inAll(powder);
        int inCells = night.grainsOf(powder);
        int ashes = store.ashes[powder];
        switch (what) {
            case 1: return inJars;
            case 2: return inCells;
            case 3: return ashes;
            default: return inJars + inCells + ashes;
        }
    }

    /** Puts into the plan which powders the cells get; how many cells do. */
    private int planFilling(int cells, int s, int n) {
        int tick = s * HOUR_TICKS;
        for (int i = 0; i < cells; i++) {
            int k = Air.hourOf(tick) - s;
            if (k < 0 || k >= n) {
                return i;
            }
            plan[i] = scents[k];
            tick += air.ticksOf(plan[i], tick);
        }
        return cells;
    }

    private int turnToAshes(Clock clock) {
        int burnt = 0;
        for (int i = 0; i < clock.cells; i++) {
            if (clock.begins[i] != NONE) {
                store.addAsh(clock.powders[i]);
                clock.powders[i] = NONE;
                burnt++;
            }
        }
        return burnt;
    }

    private int litClocks() {
        night.know(air);
        return night.litClocks();
    }

    /** The night is worked out with the damp tried and forgotten again, so nothing of the trial stays. */
    private int costWithDamp(int c, int d) {
        air.dampOfAll = d;
        night.known = false;
        night.know(air);
        int sum = bells.costOf(c, night);
        air.dampOfAll = NONE;
        night.known = false;
        return sum;
    }

    /** When a watch begins in its round; watch 12 stands for the round's end. */
    private int watchBegin(int k) {
        if (k <= NIGHT_WATCHES) {
            return k * nightHour;
        }
        return NIGHT_WATCHES * nightHour + (k - NIGHT_WATCHES) * (BOTH_HOURS - nightHour);
    }

    private int watchAt(int tick) {
        int inRound = tick % ROUND;
        int now = 0;
        for (int k = 1; k < WATCHES; k++) {
            if (watchBegin(k) <= inRound) {
                now = k;
            }
        }
        return now;
    }

    /** A board with its barred squares and its path. */
    private static final class Seal {
        int w, h, length;
        final int[] path = new int[SQUARES];
        /** Where each square stands in the path; NONE: it is not in it. */
        final int[] place = new int[SQUARES];
        final int[] barred = new int[SQUARES];
        /** The four neighbours of each square, rising; NONE where the board ends. */
        final int[] near = new int[SQUARES * SIDES];

        Seal() {
            shape(1, 1);
        }

        void shape(int wide, int high) {
            w = wide;
            h = high;
            Arrays.fill(barred, 0);
            clear();
            for (int y = 0; y < high; y++) {
                for (int x = 0; x < wide; x++) {
                    findNeighbours(x, y);
                }
            }
        }

        private void findNeighbours(int x, int y) {
            int square = y * w + x;
            int first = square * SIDES;
            near[first] = y > 0 ? square - w : NONE;
            near[first + 1] = x > 0 ? square - 1 : NONE;
            near[first + 2] = x < w - 1 ? square + 1 : NONE;
            near[first + 3] = y < h - 1 ? square + w : NONE;
        }

        boolean has(int square) {
            return square >= 0 && square < w * h;
        }

        void clear() {
            length = 0;
            Arrays.fill(place, NONE);
        }

        boolean canFollow(int square) {
            if (barred[square] != 0 || place[square] != NONE) {
                return false;
            }
            return length == 0 || areNeighbours(path[length - 1], square);
        }

        private boolean areNeighbours(int a, int b) {
            for (int side = 0; side < SIDES; side++) {
                if (near[a * SIDES + side] == b) {
                    return true;
                }
            }
            return false;
        }

        void append(int square) {
            place[square] = length;
            path[length] = square;
            length++;
        }

        void replacePath(int[] squares, int n) {
            clear();
            for (int i = 0; i < n; i++) {
                append(squares[i]);
            }
        }

        int barredSquares() {
            int sum = 0;
            for (int square = 0; square < w * h; square++) {
                sum += barred[square];
            }
            return sum;
        }

        /** How many pairs of the path's squares are neighbours, but for those next to one another in it. */
        int touchingPairs() {
            int ends = 0;
            for (int i = 0; i < length; i++) {
                ends += neighboursIn(place, path[i]);
            }
            return length == 0 ? 0 : ends / 2 - (length - 1);
        }

        int neighboursIn(int[] places, int square) {
            int sum = 0;
            for (int side = 0; side < SIDES; side++) {
                int other = near[square * SIDES + side];
                if (other != NONE && places[other] != NONE) {
                    sum++;
                }
            }
            return sum;
        }

        int likenesses() {
            int set = 0;
            for (int kind = 1; kind <= KINDS; kind++) {
                if (isAlike(place, kind)) {
                    set |= 1 << kind;
                }
            }
            return set;
        }

        boolean isAlike(int[] places, int kind) {
            for (int y = 0; y < h; y++) {
                for (int x = 0; x < w; x++) {
                    boolean isIn = places[y * w + x] != NONE;
                    boolean isTurnedIn = places[turned(x, y, kind)] != NONE;
                    if (isIn != isTurnedIn) {
                        return false;
                    }
                }
            }
            return true;
        }

        private int turned(int x, int y, int kind) {
            int turnedX = (kind & 1) != 0 ? w - 1 - x : x;
            int turnedY = (kind & 2) != 0 ? h - 1 - y : y;
            return turnedY * w + turnedX;
        }
    }

    /** The search for a path, square by square. */
    private static final class Search {
        int bound = FIRST_BOUND, looks;
        private final int[] trial = new int[SQUARES];
        private final int[] place = new int[SQUARES];
        private int goal, wanted, kind;
        private boolean sound, spent;

        int drawOn(Seal seal, int a, int b, int n, boolean isSound, int turning) {
            looks = 0;
            if (seal.barred[a] != 0 || seal.barred[b] != 0) {
                return NOT;
            }
            goal = b;
            wanted = n;
            kind = turning;
            sound = isSound;
            spent = false;
            Arrays.fill(place, NONE);
            trial[0] = a;
            place[a] = 0;
            boolean found = a == b ? n == 1 && seal.isAlike(place, kind) : seek(seal, 1);
            if (spent) {
                return SPENT;
            }
            if (!found) {
                return NOT;
            }
            seal.replacePath(trial, n);
            return n;
        }

        /** Goes on from a trial of some length, which grows with each level and ends below the wanted one. */
        private boolean seek(Seal seal, int length) {
            if (length >= wanted || length >= SQUARES) {
                return false;
            }
            int first = trial[length - 1] * SIDES;
            for (int side = 0; side < SIDES; side++) {
                int next = seal.near[first + side];
                if (next == NONE || !mayFollow(seal, next)) {
                    continue;
                }
                if (looks >= bound) {
                    spent = true;
                    return false;
                }
                looks++;
                trial[length] = next;
                place[next] = length;
                if (next == goal ? isAsked(seal, length + 1) : seek(seal, length + 1)) {
                    return true;
                }
                place[next] = NONE;
                if (spent) {
                    return false;
                }
            }
            return false;
        }

        /** The last square is a neighbour always, so a sound wall allows just that one. */
        private boolean mayFollow(Seal seal, int square) {
            if (seal.barred[square] != 0 || place[square] != NONE) {
                return false;
            }
            return !sound || seal.neighboursIn(place, square) == 1;
        }

        private boolean isAsked(Seal seal, int length) {
            return length == wanted && seal.isAlike(place, kind);
        }
    }

    /** How long powders burn, by their rates and the damp of the hours. */
    private static final class Air {
        final int[] rates = new int[POWDERS];
        final int[] damps = new int[HOURS];
        /** A damp that is tried for all hours at once; NONE: each has its own. */
        int dampOfAll = NONE;

        Air() {
            Arrays.fill(rates, FIRST_RATE);
        }

        static int hourOf(int tick) {
            int hour = tick / HOUR_TICKS;
            return hour < HOURS ? hour : HOURS - 1;
        }

        int ticksOf(int powder, int begin) {
            int damp = dampOfAll == NONE ? damps[hourOf(begin)] : dampOfAll;
            return rates[powder] * (100 + damp) / 100;
        }
    }

    /** Grains in jars, and ashes. */
    private static final class Store {
        private final int[] held = new int[JARS * POWDERS];
        final int[] ashes = new int[POWDERS];

        int inJar(int jar, int powder) {
            return held[jar * POWDERS + powder];
        }

        void add(int jar, int powder, int n) {
            held[jar * POWDERS + powder] += n;
        }

        void addAsh(int powder) {
            ashes[powder]++;
        }

        int inAll(int powder) {
            int sum = 0;
            for (int jar = 0; jar < JARS; jar++) {
                sum += inJar(jar, powder);
            }
            return sum;
        }

        /** Whether the jars together have a grain for each of the first n powders of a row. */
        boolean hasAll(int[] wanted, int n) {
            for (int p = 0; p < POWDERS; p++) {
                int needed = 0;
                for (int i = 0; i < n; i++) {
                    if (wanted[i] == p) {
                        needed++;
                    }
                }
                if (needed > inAll(p)) {
                    return false;
                }
            }
            return true;
        }

        void takeOne(int powder) {
            for (int jar = 0; jar < JARS; jar++) {
                if (inJar(jar, powder) > 0) {
                    add(jar, powder, -1);
                    return;
                }
            }
        }
    }

    /** A mounted path with its grains, and how it burns in the night. */
    private static final class Clock {
        int cells;
        final int[] powders = new int[SQUARES];
        int handTick = NONE, handCell;
        int litTick, litCell, outTick;
        final int[] begins = new int[SQUARES];
        final int[] ends = new int[SQUARES];
        /** The neighbours of each cell among the cells; NONE: no cell is there. */
        private final int[] near = new int[SQUARES * SIDES];
        /** Cells that are reached by fire and have not been burnt to their end yet. */
        private final int[] waiting = new int[SQUARES];
        private int waits;

        Clock() {
            makeBare();
            forgetNight();
        }

        boolean hasCell(int i) {
            return i >= 0 && i < cells;
        }

        /** The clock has no grains when it is mounted, so its new cells are all bare. */
        void takePath(Seal seal) {
            cells = seal.length;
            for (int i = 0; i < cells; i++) {
                int first = seal.path[i] * SIDES;
                for (int side = 0; side < SIDES; side++) {
                    int other = seal.near[first + side];
                    near[i * SIDES + side] = other == NONE ? NONE : seal.place[other];
                }
            }
        }

        void makeBare() {
            Arrays.fill(powders, NONE);
        }

        int grains() {
            int sum = 0;
            for (int i = 0; i < cells; i++) {
                if (powders[i] != NONE) {
                    sum++;
                }
            }
            return sum;
        }

        int grainsOf(int powder) {
            int sum = 0;
            for (int i = 0; i < cells; i++) {
                if (powders[i] == powder) {
                    sum++;
                }
            }
            return sum;
        }

        void forgetNight() {
            litTick = NONE;
            litCell = NONE;
            outTick = NONE;
            Arrays.fill(begins, NONE);
            Arrays.fill(ends, NONE);
        }

        void beLit(int cell, int tick) {
            litTick = tick;
            litCell = cell;
            outTick = tick;
        }

        boolean canGoOn(int cell, int tick) {
            return outTick <= tick && begins[cell] == NONE;
        }

        /** A cell ends behind its beginning, so the earliest one that waits cannot be reached earlier. */
        void burnFrom(int cell, int tick, Air air) {
            if (powders[cell] == NONE) {
                return;
            }
            waits = 0;
            await(cell, tick);
            for (int round = 0; round < SQUARES && waits > 0; round++) {
                int next = takeEarliest();
                ends[next] = begins[next] + air.ticksOf(powders[next], begins[next]);
                outTick = Math.max(outTick, ends[next]);
                reachNeighbours(next);
            }
        }

        private void await(int cell, int tick) {
            begins[cell] = tick;
            if (waits < SQUARES) {
                waiting[waits] = cell;
                waits++;
            }
        }

        private int takeEarliest() {
            int best = 0;
            for (int k = 1; k < waits; k++) {
                if (begins[waiting[k]] < begins[waiting[best]]) {
                    best = k;
                }
            }
            int cell = waiting[best];
            waits--;
            waiting[best] = waiting[waits];
            return cell;
        }

        private void reachNeighbours(int cell) {
            int tick = ends[cell];
            for (int side = 0; side < SIDES; side++) {
                int other = near[cell * SIDES + side];
                if (other == NONE || powders[other] == NONE || ends[other] != NONE) {
                    continue;
                }
                if (begins[other] == NONE) {
                    await(other, tick);
                } else if (tick < begins[other]) {
                    begins[other] = tick;
                }
            }
        }

        int burntCells() {
            int sum = 0;
            for (int i = 0; i < cells; i++) {
                if (begins[i] != NONE) {
                    sum++;
                }
            }
            return sum;
        }

        int powdersBurning(int tick) {
            int set = 0;
            for (int i = 0; i < cells; i++) {
                if (begins[i] != NONE && begins[i] <= tick && tick < ends[i]) {
                    set |= 1 << powders[i];
                }
            }
            return set;
        }

        /** Ticks of the hour from a tick on in which cells with another powder burn. */
        int ticksUnlike(int powder, int from) {
            int sum = 0;
            for (int i = 0; i < cells; i++) {
                if (begins[i] != NONE && powders[i] != powder) {
                    int first = Math.max(begins[i], from);
                    int behind = Math.min(ends[i], from + HOUR_TICKS);
                    sum += Math.max(behind - first, 0);
                }
            }
            return sum;
        }

        boolean isLaidUpTo(int p) {
            for (int i = 0; i <= p; i++) {
                if (powders[i] == NONE) {
                    return false;
                }
            }
            return true;
        }

        /** When cell p is burnt, lit at cell 0 and gone along the path alone; when each one begins comes into a row. */
        int walk(int p, int from, Air air, int[] beginnings) {
            int tick = from;
            for (int i = 0; i <= p; i++) {
                beginnings[i] = tick;
                tick += air.ticksOf(powders[i], tick);
            }
            return tick;
        }
    }

    /** The clocks, what lights them, and how the night goes. */
    private static final class Night {
        final Clock[] clocks = new Clock[CLOCKS];
        int links, agains;
        /** Whether the clocks hold the night as it goes with all that is told now. */
        boolean known;
        private final int[] linkClock = new int[LINKS];
        private final int[] linkCell = new int[LINKS];
        private final int[] linkTo = new int[LINKS];
        /** Kept by ticks, of like ones as they were told. */
        private final int[] againTick = new int[AGAINS];
        private final int[] againClock = new int[AGAINS];
        private final int[] againCell = new int[AGAINS];

        Night() {
            for (int c = 0; c < CLOCKS; c++) {
                clocks[c] = new Clock();
            }
        }

        Clock clockOf(int c) {
            return c >= 0 && c < CLOCKS ? clocks[c] : null;
        }

        void addLink(int from, int cell, int to) {
            linkClock[links] = from;
            linkCell[links] = cell;
            linkTo[links] = to;
            links++;
            known = false;
        }

        void addAgain(int c, int cell, int tick) {
            int spot = agains;
            while (spot > 0 && againTick[spot - 1] > tick) {
                moveAgain(spot - 1, spot);
                spot--;
            }
            againTick[spot] = tick;
            againClock[spot] = c;
            againCell[spot] = cell;
            agains++;
            known = false;
        }

        private void moveAgain(int from, int to) {
            againTick[to] = againTick[from];
            againClock[to] = againClock[from];
            againCell[to] = againCell[from];
        }

        /** A clock that is mounted anew loses its hand, its links and its agains. */
        void forget(int c) {
            clocks[c].handTick = NONE;
            int kept = 0;
            for (int k = 0; k < links; k++) {
                if (linkClock[k] != c && linkTo[k] != c) {
                    linkClock[kept] = linkClock[k];
                    linkCell[kept] = linkCell[k];
                    linkTo[kept] = linkTo[k];
                    kept++;
                }
            }
            links = kept;
            kept = 0;
            for (int k = 0; k < agains; k++) {
                if (againClock[k] != c) {
                    moveAgain(k, kept);
                    kept++;
                }
            }
            agains = kept;
            known = false;
        }

        void forgetAll() {
            for (int c = 0; c < CLOCKS; c++) {
                clocks[c].handTick = NONE;
            }
            links = 0;
            agains = 0;
            known = false;
        }

        int grainsOf(int powder) {
            int sum = 0;
            for (int c = 0; c < CLOCKS; c++) {
                sum += clocks[c].grainsOf(powder);
            }
            return sum;
        }

        int mountedClocks() {
            int sum = 0;
            for (int c = 0; c < CLOCKS; c++) {
                if (clocks[c].cells > 0) {
                    sum++;
                }
            }
            return sum;
        }

        int litClocks() {
            int sum = 0;
            for (int c = 0; c < CLOCKS; c++) {
                if (clocks[c].litTick != NONE) {
                    sum++;
                }
            }
            return sum;
        }

        void know(Air air) {
            if (known) {
                return;
            }
            known = true;
            for (int c = 0; c < CLOCKS; c++) {
                clocks[c].forgetNight();
            }
            for (int round = 0; round < CLOCKS; round++) {
                int next = nextToCome();
                if (next == NONE) {
                    return;
                }
                come(next, air);
            }
        }

        /** The clock that is lit first of those left; NONE: no other one is lit. */
        private int nextToCome() {
            int best = NONE;
            int bestTick = NONE;
            for (int c = 0; c < CLOCKS; c++) {
                int tick = clocks[c].litTick == NONE ? lightingTick(c) : NONE;
                if (tick != NONE && (best == NONE || tick < bestTick)) {
                    best = c;
                    bestTick = tick;
                }
            }
            return best;
        }

        /** Cells of clocks that did not come have no beginning, so their links do not count. */
        private int lightingTick(int c) {
            int best = clocks[c].handTick;
            for (int k = 0; k < links; k++) {
                if (linkTo[k] == c) {
                    int tick = clocks[linkClock[k]].begins[linkCell[k]];
                    if (tick != NONE && (best == NONE || tick < best)) {
                        best = tick;
                    }
                }
            }
            return best;
        }

        private void come(int c, Air air) {
            Clock clock = clocks[c];
            int tick = lightingTick(c);
            clock.beLit(tick == clock.handTick ? clock.handCell : 0, tick);
            clock.burnFrom(clock.litCell, tick, air);
            for (int k = 0; k < agains; k++) {
                if (againClock[k] == c && clock.canGoOn(againCell[k], againTick[k])) {
                    clock.burnFrom(againCell[k], againTick[k], air);
                }
            }
        }
    }

    /** Balls on threads, and what was heard of a bell. */
    private static final class Bells {
        int balls, hearings;
        private final int[] ballClock = new int[BALLS];
        private final int[] ballCell = new int[BALLS];
        private final int[] heard = new int[HEARINGS];
        private final int[] dropped = new int[BALLS];
        private final int[] sums = new int[HEARINGS + 1];

        void addBall(int c, int cell) {
            ballClock[balls] = c;
            ballCell[balls] = cell;
            balls++;
        }

        void forget(int c) {
            int kept = 0;
            for (int k = 0; k < balls; k++) {
                if (ballClock[k] != c) {
                    ballClock[kept] = ballClock[k];
                    ballCell[kept] = ballCell[k];
                    kept++;
                }
            }
            balls = kept;
        }

        int dropOf(int ball, Night night) {
            return night.clocks[ballClock[ball]].begins[ballCell[ball]];
        }

        int lastHeard() {
            return hearings == 0 ? 0 : heard[hearings - 1];
        }

        void addHearing(int tick) {
            heard[hearings] = tick;
            hearings++;
        }

        /** After each drop, sums[j] is the least sum for the drops so far and the first j ticks heard. */
        int costOf(int c, Night night) {
            int drops = sortDrops(c, night);
            for (int j = 0; j <= hearings; j++) {
                sums[j] = j * LEFT_OUT;
            }
            for (int i = 0; i < drops; i++) {
                int corner = sums[0];
                sums[0] += LEFT_OUT;
                for (int j = 1; j <= hearings; j++) {
                    int paired = corner + Math.abs(dropped[i] - heard[j - 1]);
                    corner = sums[j];
                    sums[j] = Math.min(paired, Math.min(corner, sums[j - 1]) + LEFT_OUT);
                }
            }
            return sums[hearings];
        }

        private int sortDrops(int c, Night night) {
            int n = 0;
            for (int k = 0; k < balls; k++) {
                int tick = ballClock[k] == c ? dropOf(k, night) : NONE;
                if (tick != NONE) {
                    int spot = n;
                    while (spot > 0 && dropped[spot - 1] > tick) {
                        dropped[spot] = dropped[spot - 1];
                        spot--;
                    }
                    dropped[spot] = tick;
                    n++;
                }
            }
            return n;
        }

        boolean areHeard(int c, int p, int[] beginnings, int width) {
            for (int k = 0; k < balls; k++) {
                if (ballClock[k] == c && ballCell[k] <= p && !isHeard(beginnings[ballCell[k]], width)) {
                    return false;
                }
            }
            return true;
        }

        private boolean isHeard(int tick, int width) {
            for (int j = 0; j < hearings; j++) {
                if (Math.abs(tick - heard[j]) <= width) {
                    return true;
                }
            }
            return false;
        }
    }

    /** The watches' words, and the text that they are read from. */
    private static final class Rule {
        private static final int BEFORE_CLAUSE = 0, BEFORE_NUMBER = 1, BEFORE_WORD = 2, BEHIND_WORD = 3;
        private static final int MISPLACED = 1, TOO_GREAT = 2, WATCH_AGAIN = 3, WORD_AGAIN = 4;
        /** The letters of a word, each in eight bits: watch; and bell, light, sweep, sleep, drum. */
        private static final long WATCH_WORD = 0x7761746368L;
        private static final long[] WORDS = {0x62656c6cL, 0x6c69676874L, 0x7377656570L, 0x736c656570L, 0x6472756dL};

        final int[] sets = new int[WATCHES];
        int length, faultByte = NONE;
        private final int[] text = new int[TEXT];
        /** Words of the watches as far as the text is read; NONE: a watch that it did not tell yet. */
        private final int[] fresh = new int[WATCHES];
        private int faultKind, stage, clauses, clauseWatch;

        void addBytes(int n, long bytes) {
            for (int k = n - 1; k >= 0; k--) {
                text[length] = (int) (bytes >>> (8 * k)) & 255;
                length++;
            }
        }

        int readText() {
            faultByte = NONE;
            faultKind = 0;
            stage = BEFORE_CLAUSE;
            clauses = 0;
            Arrays.fill(fresh, NONE);
            readTokens();
            length = 0;
            if (faultKind != 0) {
                return -10 - faultKind;
            }
            for (int k = 0; k < WATCHES; k++) {
                sets[k] = Math.max(fresh[k], 0);
            }
            return clauses;
        }

        private void readTokens() {
            int from = 0;
            for (int token = 0; token < TEXT && from < length; token++) {
                int behind = tokenEnd(from);
                if (isLetter(text[from])) {
                    readWord(from, behind);
                } else if (isFigure(text[from])) {
                    readNumber(from, behind);
                } else if (text[from] != ' ') {
                    readSign(from);
                }
                if (faultKind != 0) {
                    return;
                }
                from = behind;
            }
            if (stage != BEFORE_CLAUSE) {
                blame(MISPLACED, length);
            }
        }

        private static boolean isLetter(int sign) {
            return sign >= 'a' && sign <= 'z';
        }

        private static boolean isFigure(int sign) {
            return sign >= '0' && sign <= '9';
        }

        /** Letters, or figures, side by side are one token; any other byte is one by itself. */
        private int tokenEnd(int from) {
            int behind = from + 1;
            if (isLetter(text[from])) {
                while (behind < length && isLetter(text[behind])) {
                    behind++;
                }
            } else if (isFigure(text[from])) {
                while (behind < length && isFigure(text[behind])) {
                    behind++;
                }
            }
            return behind;
        }

        private void blame(int kind, int spot) {
            faultKind = kind;
            faultByte = spot;
        }

        private void readWord(int from, int behind) {
            long letters = 0;
            for (int k = from; k < behind; k++) {
                letters = letters << 8 | text[k];
            }
            if (stage == BEFORE_CLAUSE && letters == WATCH_WORD) {
                stage = BEFORE_NUMBER;
                return;
            }
            int word = stage == BEFORE_WORD ? wordOf(letters) : NONE;
            if (word == NONE) {
                blame(MISPLACED, from);
            } else if ((fresh[clauseWatch] >> word & 1) != 0) {
                blame(WORD_AGAIN, from);
            } else {
                fresh[clauseWatch] |= 1 << word;
                stage = BEHIND_WORD;
            }
        }

        private static int wordOf(long letters) {
            for (int k = 0; k < WORDS.length; k++) {
                if (WORDS[k] == letters) {
                    return k;
                }
            }
            return NONE;
        }

        private void readNumber(int from, int behind) {
            if (stage != BEFORE_NUMBER) {
                blame(MISPLACED, from);
                return;
            }
            int value = text[from] - '0';
            if (behind - from == 2) {
                value = value * 10 + text[from + 1] - '0';
            }
            if (behind - from > 2 || value >= WATCHES) {
                blame(TOO_GREAT, from);
            } else if (fresh[value] != NONE) {
                blame(WATCH_AGAIN, from);
            } else {
                fresh[value] = 0;
                clauseWatch = value;
                stage = BEFORE_WORD;
            }
        }

        private void readSign(int from) {
            if (stage == BEHIND_WORD && text[from] == ',') {
                stage = BEFORE_WORD;
            } else if (stage == BEHIND_WORD && text[from] == ';') {
                stage = BEFORE_CLAUSE;
                clauses++;
            } else {
                blame(MISPLACED, from);
            }
        }
    }
}
