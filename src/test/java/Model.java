import java.util.ArrayList;
import java.util.Arrays;
import java.util.Comparator;
import java.util.HashMap;
import java.util.HashSet;
import java.util.List;
import java.util.Map;
import java.util.Set;
import java.util.regex.Matcher;
import java.util.regex.Pattern;

/** The document told a second time, slowly: the night goes tick by tick, sums are tried out, texts go by patterns. */
final class Model {
    private static final int NONE = -1, UNKNOWN = -1001, OUTSIDE = -1002, NOT = -1003, FULL = -1004, SPENT = -1005;
    private static final List<String> WORDS = List.of("bell", "light", "sweep", "sleep", "drum");

    private static final class SpentException extends RuntimeException {
        private static final long serialVersionUID = 1;
    }

    private static final class Board {
        int w = 1;
        int h = 1;
        Set<Integer> barred = new HashSet<>();
        List<Integer> path = new ArrayList<>();

        boolean beside(int a, int b) {
            return Math.abs(a % w - b % w) + Math.abs(a / w - b / w) == 1;
        }

        boolean alike(List<Integer> squares, int kind) {
            Set<Integer> turned = new HashSet<>();
            for (int q : squares) {
                int x = kind == 1 || kind == 3 ? w - 1 - q % w : q % w;
                int y = kind == 2 || kind == 3 ? h - 1 - q / w : q / w;
                turned.add(y * w + x);
            }
            return turned.equals(new HashSet<>(squares));
        }

        int pairs() {
            int sum = 0;
            for (int i = 0; i < path.size(); i++) {
                for (int j = i + 2; j < path.size(); j++) {
                    sum += beside(path.get(i), path.get(j)) ? 1 : 0;
                }
            }
            return sum;
        }
    }

    private static final class Groove {
        Board board = new Board();
        List<Integer> squares = new ArrayList<>();
        int[] grain = new int[0];
        int handTick = NONE;
        int handCell;
        int lit;
        int litCell;
        int[] begin = new int[0];
        int[] end = new int[0];

        int grains() {
            return (int) Arrays.stream(grain).filter(p -> p != NONE).count();
        }

        int out() {
            return Math.max(lit, Arrays.stream(end).max().orElse(NONE));
        }
    }

    private final Board[] boards = new Board[6];
    private int bound = 5000;
    private int looks;
    private final int[] rates = new int[8];
    private final int[] damps = new int[100];
    private final int[][] jars = new int[4][8];
    private final int[] ashes = new int[8];
    private final int[] row = new int[12];
    private final Groove[] clocks = new Groove[4];
    private final List<int[]> links = new ArrayList<>();
    private final List<int[]> agains = new ArrayList<>();
    private final List<int[]> balls = new ArrayList<>();
    private final List<Integer> heard = new ArrayList<>();
    private int season = 60;
    private final StringBuilder text = new StringBuilder();
    private int fault = NONE;
    private int[] rule = new int[12];

    Model() {
        for (int s = 0; s < 6; s++) {
            boards[s] = new Board();
        }
        for (int c = 0; c < 4; c++) {
            clocks[c] = new Groove();
        }
        Arrays.fill(rates, 10);
    }

    private static boolean in(int v, int least, int most) {
        return least <= v && v <= most;
    }

    private boolean cell(int c, int i) {
        return in(c, 0, 3) && in(i, 0, clocks[c].grain.length - 1);
    }

    public int board(int s, int w, int h) {
        if (!in(s, 0, 5)) return UNKNOWN;
        if (!in(w, 1, 6) || !in(h, 1, 6)) return OUTSIDE;
        boards[s] = new Board();
        boards[s].w = w;
        boards[s].h = h;
        return w * h;
    }

    private boolean square(int s, int q) {
        return in(q, 0, boards[s].w * boards[s].h - 1);
    }

    public int bar(int s, int q, boolean is) {
        if (!in(s, 0, 5)) return UNKNOWN;
        if (!square(s, q)) return OUTSIDE;
        if (boards[s].path.contains(q)) return NOT;
        boolean was = boards[s].barred.contains(q);
        if (is) boards[s].barred.add(q); else boards[s].barred.remove(q);
        return was ? 1 : 0;
    }

    public int go(int s, int q) {
        if (!in(s, 0, 5)) return UNKNOWN;
        if (!square(s, q)) return OUTSIDE;
        Board b = boards[s];
        int n = b.path.size();
        if (b.barred.contains(q) || b.path.contains(q) || n > 0 && !b.beside(b.path.get(n - 1), q)) return NOT;
        b.path.add(q);
        return n + 1;
    }

    public int wipe(int s) {
        if (!in(s, 0, 5)) return UNKNOWN;
        int n = boards[s].path.size();
        boards[s].path.clear();
        return n;
    }

    public int draw(int s, int a, int b, int n, boolean sound, int kind) {
        if (!in(s, 0, 5)) return UNKNOWN;
        if (!square(s, a) || !square(s, b) || !in(n, 1, boards[s].w * boards[s].h) || !in(kind, 0, 3)) return OUTSIDE;
        looks = 0;
        Board board = boards[s];
        if (board.barred.contains(a) || board.barred.contains(b)) return NOT;
        List<Integer> trial = new ArrayList<>(List.of(a));
        boolean found;
        try {
            found = n == 1 ? a == b && asked(board, trial, kind) : a != b && seek(board, trial, b, n, sound, kind);
        } catch (SpentException e) {
            return SPENT;
        }
        if (!found) return NOT;
        board.path = trial;
        return n;
    }

    private static boolean asked(Board board, List<Integer> trial, int kind) {
        return kind == 0 || board.alike(trial, kind);
    }

    private boolean seek(Board board, List<Integer> trial, int b, int n, boolean sound, int kind) {
        int last = trial.get(trial.size() - 1);
        for (int q = 0; q < board.w * board.h; q++) {
            if (!board.beside(last, q) || board.barred.contains(q) || trial.contains(q)) continue;
            int look = q;
            if (sound && trial.stream().anyMatch(o -> o != last && board.beside(o, look))) continue;
            if (looks + 1 > bound) throw new SpentException();
            looks++;
            trial.add(q);
            if (trial.size() == n && q == b && asked(board, trial, kind)) return true;
            if (trial.size() < n && q != b && seek(board, trial, b, n, sound, kind)) return true;
            trial.remove(trial.size() - 1);
        }
        return false;
    }

    public int looks() {
        return looks;
    }

    public int bound(int v) {
        if (!in(v, 100, 20000)) return OUTSIDE;
        int was = bound;
        bound = v;
        return was;
    }

    public int told(int s, int what) {
        if (!in(s, 0, 5)) return UNKNOWN;
        if (!in(what, 0, 6)) return OUTSIDE;
        Board b = boards[s];
        int set = 0;
        for (int kind = 1; kind <= 3; kind++) {
            set += b.alike(b.path, kind) ? 1 << kind : 0;
        }
        return new int[] {b.w, b.h, b.barred.size(), b.path.size(), b.pairs() == 0 ? 1 : 0, set, b.pairs()}[what];
    }

    public int at(int s, int i) {
        if (!in(s, 0, 5)) return UNKNOWN;
        return in(i, 0, boards[s].path.size() - 1) ? boards[s].path.get(i) : NONE;
    }

    public int rate(int powder, int v) {
        if (!in(powder, 0, 7)) return UNKNOWN;
        if (!in(v, 1, 60)) return OUTSIDE;
        int was = rates[powder];
        rates[powder] = v;
        return was;
    }

    public int damp(int a, int b, int d) {
        if (!in(a, 0, 99) || !in(b, 0, 99) || b < a || !in(d, 0, 50)) return OUTSIDE;
        Arrays.fill(damps, a, b + 1, d);
        return 1;
    }

    public int bring(int jar, int powder, int n) {
        if (!in(jar, 0, 3) || !in(powder, 0, 7)) return UNKNOWN;
        if (!in(n, 1, 99)) return OUTSIDE;
        if (jars[jar][powder] + n > 999) return FULL;
        return jars[jar][powder] += n;
    }

    public int jar(int jar, int powder) {
        if (!in(jar, 0, 3) || !in(powder, 0, 7)) return UNKNOWN;
        return jars[jar][powder];
    }

    public int pour(int from, int to, int powder, int n) {
        if (!in(from, 0, 3) || !in(to, 0, 3) || !in(powder, 0, 7)) return UNKNOWN;
        if (!in(n, 1, 99) || from == to) return OUTSIDE;
        if (jars[from][powder] < n) return NOT;
        if (jars[to][powder] + n > 999) return FULL;
        jars[from][powder] -= n;
        jars[to][powder] += n;
        return 1;
    }

    public int weighed(int powder, int what) {
        if (!in(powder, -1, 7)) return UNKNOWN;
        if (!in(what, 0, 3)) return OUTSIDE;
        int inJars = 0;
        int inCells = 0;
        int burnt = 0;
        for (int p = 0; p < 8; p++) {
            if (powder != NONE && powder != p) continue;
            for (int[] jar : jars) inJars += jar[p];
            for (Groove clock : clocks) for (int g : clock.grain) inCells += g == p ? 1 : 0;
            burnt += ashes[p];
        }
        return new int[] {inJars + inCells + burnt, inJars, inCells, burnt}[what];
    }

    public int mount(int c, int s) {
        if (!in(c, 0, 3) || !in(s, 0, 5)) return UNKNOWN;
        if (clocks[c].grains() > 0 || boards[s].path.isEmpty()) return NOT;
        Groove clock = new Groove();
        clock.board.w = boards[s].w;
        clock.board.h = boards[s].h;
        clock.squares = new ArrayList<>(boards[s].path);
        clock.grain = new int[clock.squares.size()];
        Arrays.fill(clock.grain, NONE);
        clocks[c] = clock;
        links.removeIf(l -> l[0] == c || l[2] == c);
        agains.removeIf(a -> a[0] == c);
        balls.removeIf(b -> b[0] == c);
        return clock.squares.size();
    }

    public int lay(int c, int i, int powder, int jar) {
        if (!cell(c, i) || !in(powder, 0, 7) || !in(jar, 0, 3)) return UNKNOWN;
        if (clocks[c].grain[i] != NONE || jars[jar][powder] == 0) return NOT;
        clocks[c].grain[i] = powder;
        return --jars[jar][powder];
    }

    public int grain(int c, int i) {
        if (!cell(c, i)) return UNKNOWN;
        return clocks[c].grain[i];
    }

    public int sweep(int c, int jar) {
        if (!in(c, 0, 3) || !in(jar, 0, 3)) return UNKNOWN;
        int[] sums = jars[jar].clone();
        for (int g : clocks[c].grain) if (g != NONE) sums[g]++;
        for (int sum : sums) if (sum > 999) return FULL;
        int n = clocks[c].grains();
        jars[jar] = sums;
        Arrays.fill(clocks[c].grain, NONE);
        return n;
    }

    public int row(int k, int powder) {
        if (!in(powder, 0, 7)) return UNKNOWN;
        if (!in(k, 0, 11)) return OUTSIDE;
        int was = row[k];
        row[k] = powder;
        return was;
    }

    private int ticks(int powder, int begin, int dampOfAll) {
        int damp = dampOfAll == NONE ? damps[Math.min(99, begin / 60)] : dampOfAll;
        return Math.floorDiv(rates[powder] * (100 + damp), 100);
    }

    private static boolean hours(int s, int n) {
        return in(n, 1, 12) && in(s, 0, 99 - n);
    }

    public int fill(int c, int s, int n) {
        if (!in(c, 0, 3)) return UNKNOWN;
        if (!hours(s, n)) return OUTSIDE;
        Groove clock = clocks[c];
        if (clock.grains() > 0) return NOT;
        int[][] left = new int[4][];
        for (int j = 0; j < 4; j++) left[j] = jars[j].clone();
        int[] laid = clock.grain.clone();
        int filled = 0;
        int tick = 60 * s;
        while (filled < laid.length && tick < 60 * (s + n)) {
            int powder = row[tick / 60 - s];
            int from = 0;
            while (from < 4 && left[from][powder] == 0) from++;
            if (from == 4) return NOT;
            left[from][powder]--;
            laid[filled++] = powder;
            tick += ticks(powder, tick, NONE);
        }
        System.arraycopy(left, 0, jars, 0, 4);
        clock.grain = laid;
        return filled;
    }

    public int spills(int c, int s, int n) {
        if (!in(c, 0, 3)) return UNKNOWN;
        if (!hours(s, n)) return OUTSIDE;
        goThroughNight(NONE);
        Groove clock = clocks[c];
        int sum = 0;
        for (int tick = 60 * s; tick < 60 * (s + n); tick++) {
            for (int i = 0; i < clock.grain.length; i++) {
                boolean burning = clock.begin[i] != NONE && clock.begin[i] <= tick && tick < clock.end[i];
                sum += burning && clock.grain[i] != row[tick / 60 - s] ? 1 : 0;
            }
        }
        return sum;
    }

    public int light(int c, int i, int tick) {
        if (!cell(c, i)) return UNKNOWN;
        if (!in(tick, -1, 5999)) return OUTSIDE;
        clocks[c].handTick = tick;
        clocks[c].handCell = i;
        return 1;
    }

    public int link(int b, int i, int c) {
        if (!cell(b, i) || !cell(c, 0)) return UNKNOWN;
        if (b == c) return OUTSIDE;
        if (links.size() == 12) return FULL;
        links.add(new int[] {b, i, c});
        return links.size();
    }

    public int again(int c, int i, int tick) {
        if (!cell(c, i)) return UNKNOWN;
        if (!in(tick, 0, 5999)) return OUTSIDE;
        if (agains.size() == 12) return FULL;
        agains.add(new int[] {c, i, tick});
        return agains.size();
    }

    public int calm() {
        int n = links.size() + agains.size();
        for (Groove clock : clocks) clock.handTick = NONE;
        links.clear();
        agains.clear();
        return n;
    }

    /** All clocks at once, tick by tick, till nothing burns and nothing is told for later. */
    private void goThroughNight(int dampOfAll) {
        int last = 0;
        for (Groove clock : clocks) {
            clock.lit = NONE;
            clock.litCell = NONE;
            clock.begin = new int[clock.grain.length];
            clock.end = new int[clock.grain.length];
            Arrays.fill(clock.begin, NONE);
            Arrays.fill(clock.end, NONE);
            last = Math.max(last, clock.handTick);
        }
        for (int[] a : agains) last = Math.max(last, a[2]);
        for (int tick = 0; tick <= last; tick++) {
            spread(tick, dampOfAll);
            boolean changed = true;
            while (changed) {
                changed = lightAt(tick, dampOfAll) || againAt(tick, dampOfAll);
            }
            for (Groove clock : clocks) last = Math.max(last, clock.out());
        }
    }

    private void begin(Groove clock, int i, int tick, int dampOfAll) {
        clock.begin[i] = tick;
        clock.end[i] = tick + ticks(clock.grain[i], tick, dampOfAll);
    }

    private void spread(int tick, int dampOfAll) {
        for (Groove clock : clocks) {
            for (int i = 0; i < clock.grain.length; i++) {
                if (clock.end[i] != tick || clock.begin[i] == NONE) continue;
                for (int j = 0; j < clock.grain.length; j++) {
                    boolean beside = clock.board.beside(clock.squares.get(i), clock.squares.get(j));
                    if (beside && clock.grain[j] != NONE && clock.begin[j] == NONE) begin(clock, j, tick, dampOfAll);
                }
            }
        }
    }

    private boolean lightAt(int tick, int dampOfAll) {
        for (int c = 0; c < 4; c++) {
            Groove clock = clocks[c];
            if (clock.lit != NONE) continue;
            int to = c;
            boolean linked = links.stream().anyMatch(l -> l[2] == to && clocks[l[0]].begin[l[1]] == tick);
            if (clock.handTick != tick && !linked) continue;
            clock.lit = tick;
            clock.litCell = clock.handTick == tick ? clock.handCell : 0;
            if (clock.grain[clock.litCell] != NONE) begin(clock, clock.litCell, tick, dampOfAll);
            return true;
        }
        return false;
    }

    private boolean againAt(int tick, int dampOfAll) {
        for (int[] a : agains) {
            Groove clock = clocks[a[0]];
            if (a[2] != tick || clock.lit == NONE || clock.out() > tick) continue;
            if (clock.grain[a[1]] == NONE || clock.begin[a[1]] != NONE) continue;
            begin(clock, a[1], tick, dampOfAll);
            return true;
        }
        return false;
    }

    public int night(int c, int what) {
        if (!in(c, 0, 3)) return UNKNOWN;
        if (!in(what, 0, 3)) return OUTSIDE;
        goThroughNight(NONE);
        Groove clock = clocks[c];
        int burn = (int) Arrays.stream(clock.begin).filter(t -> t != NONE).count();
        return new int[] {clock.lit, clock.out(), burn, clock.litCell}[what];
    }

    public int burns(int c, int i, int what) {
        if (!cell(c, i)) return UNKNOWN;
        if (!in(what, 0, 1)) return OUTSIDE;
        goThroughNight(NONE);
        return what == 0 ? clocks[c].begin[i] : clocks[c].end[i];
    }

    public int scent(int c, int tick) {
        if (!in(c, 0, 3)) return UNKNOWN;
        if (!in(tick, 0, 20000)) return OUTSIDE;
        goThroughNight(NONE);
        int set = 0;
        for (int i = 0; i < clocks[c].grain.length; i++) {
            boolean burning = clocks[c].begin[i] != NONE && in(tick, clocks[c].begin[i], clocks[c].end[i] - 1);
            set |= burning ? 1 << clocks[c].grain[i] : 0;
        }
        return set;
    }

    public int dawn() {
        goThroughNight(NONE);
        int n = 0;
        for (Groove clock : clocks) {
            for (int i = 0; i < clock.grain.length; i++) {
                if (clock.begin[i] == NONE) continue;
                ashes[clock.grain[i]]++;
                clock.grain[i] = NONE;
                n++;
            }
        }
        calm();
        return n;
    }

    public int hang(int c, int i) {
        if (!cell(c, i)) return UNKNOWN;
        if (balls.size() == 12) return FULL;
        balls.add(new int[] {c, i});
        return balls.size() - 1;
    }

    public int drops(int ball) {
        if (!in(ball, 0, balls.size() - 1)) return UNKNOWN;
        goThroughNight(NONE);
        return clocks[balls.get(ball)[0]].begin[balls.get(ball)[1]];
    }

    public int hear(int tick) {
        if (!in(tick, 0, 20000) || !heard.isEmpty() && tick < heard.get(heard.size() - 1)) return OUTSIDE;
        if (heard.size() == 24) return FULL;
        heard.add(tick);
        return heard.size();
    }

    public int hush() {
        int n = heard.size();
        heard.clear();
        return n;
    }

    private int costNow(int c) {
        List<Integer> drops = new ArrayList<>();
        for (int[] ball : balls) {
            int tick = clocks[ball[0]].begin[ball[1]];
            if (ball[0] == c && tick != NONE) drops.add(tick);
        }
        drops.sort(Comparator.naturalOrder());
        return least(drops, 0, 0, new HashMap<>());
    }

    private int least(List<Integer> drops, int i, int j, Map<Integer, Integer> known) {
        if (i == drops.size()) return 20 * (heard.size() - j);
        if (j == heard.size()) return 20 * (drops.size() - i);
        Integer answer = known.get(i * 100 + j);
        if (answer != null) return answer;
        int pair = Math.abs(drops.get(i) - heard.get(j)) + least(drops, i + 1, j + 1, known);
        int without = 20 + Math.min(least(drops, i + 1, j, known), least(drops, i, j + 1, known));
        known.put(i * 100 + j, Math.min(pair, without));
        return Math.min(pair, without);
    }

    public int cost(int c) {
        if (!in(c, 0, 3)) return UNKNOWN;
        goThroughNight(NONE);
        return costNow(c);
    }

    public int slow(int c, int what) {
        if (!in(c, 0, 3)) return UNKNOWN;
        if (!in(what, 0, 1)) return OUTSIDE;
        int[] costs = new int[51];
        for (int d = 0; d <= 50; d++) {
            goThroughNight(d);
            costs[d] = costNow(c);
        }
        int least = Arrays.stream(costs).min().getAsInt();
        int d = 0;
        while (costs[d] != least) d++;
        return what == 0 ? d : least;
    }

    public int gone(int c, int p, int t, int a, int b, int width, int what) {
        if (!cell(c, p)) return UNKNOWN;
        if (!in(t, 0, 5999) || !in(a, 0, 5999) || !in(b, 0, 5999) || b < a || b - a > 300) return OUTSIDE;
        if (!in(width, 0, 60) || !in(what, 0, 2)) return OUTSIDE;
        for (int i = 0; i <= p; i++) if (clocks[c].grain[i] == NONE) return NOT;
        List<Integer> ends = new ArrayList<>();
        for (int light = a; light <= b; light++) {
            Map<Integer, Integer> begins = new HashMap<>();
            int tick = light;
            for (int i = 0; i <= p; i++) {
                begins.put(i, tick);
                tick += ticks(clocks[c].grain[i], tick, NONE);
            }
            boolean maybe = tick <= t;
            for (int[] ball : balls) {
                if (ball[0] != c || ball[1] > p) continue;
                int drop = begins.get(ball[1]);
                maybe &= heard.stream().anyMatch(h -> in(h, drop - width, drop + width));
            }
            if (maybe) ends.add(tick);
        }
        if (what == 2) return ends.size();
        ends.sort(Comparator.naturalOrder());
        return ends.isEmpty() ? NONE : ends.get(what == 0 ? 0 : ends.size() - 1);
    }

    public int season(int v) {
        if (!in(v, 30, 90)) return OUTSIDE;
        int was = season;
        season = v;
        return was;
    }

    public int watch(int tick, int what) {
        if (!in(tick, 0, 20000) || !in(what, 0, 2)) return OUTSIDE;
        int begin = 0;
        for (int k = 0; ; k = (k + 1) % 12) {
            int behind = begin + (k < 6 ? season : 120 - season);
            if (tick < behind) return what == 0 ? k : what == 1 ? begin : behind - tick;
            begin = behind;
        }
    }

    public int feed(int n, long bytes) {
        if (!in(n, 1, 8)) return OUTSIDE;
        if (text.length() + n > 160) return FULL;
        for (int k = 8 - n; k < 8; k++) {
            text.append((char) (bytes << 8 * k >>> 56));
        }
        return text.length();
    }

    public int read() {
        String all = text.toString();
        text.setLength(0);
        fault = NONE;
        int[] told = new int[12];
        Arrays.fill(told, NONE);
        int kind = readInto(all, told);
        if (kind != 0) return -10 - kind;
        int clauses = 0;
        for (int k = 0; k < 12; k++) {
            clauses += told[k] == NONE ? 0 : 1;
            rule[k] = Math.max(0, told[k]);
        }
        return clauses;
    }

    /** The kinds of the tokens so far must begin some row of clauses; a pattern that only runs out tells that. */
    private int readInto(String all, int[] told) {
        Matcher tokens = Pattern.compile("[a-z]+|[0-9]+|.", Pattern.DOTALL).matcher(all);
        Pattern clauses = Pattern.compile("(wnk(,k)*;)*");
        StringBuilder kinds = new StringBuilder();
        int now = NONE;
        while (tokens.find()) {
            String token = tokens.group();
            if (token.equals(" ")) continue;
            fault = tokens.start();
            boolean number = token.matches("[0-9]+");
            boolean word = WORDS.contains(token);
            String sign = ",;".contains(token) ? token : "?";
            kinds.append(token.equals("watch") ? "w" : number ? "n" : word ? "k" : sign);
            Matcher m = clauses.matcher(kinds);
            if (!m.matches() && !m.hitEnd()) return 1;
            if (number) {
                if (token.length() > 2 || Integer.parseInt(token) > 11) return 2;
                now = Integer.parseInt(token);
                if (told[now] != NONE) return 3;
                told[now] = 0;
            }
            if (word) {
                int bit = 1 << WORDS.indexOf(token);
                if ((told[now] & bit) != 0) return 4;
                told[now] |= bit;
            }
        }
        fault = all.length();
        if (!clauses.matcher(kinds).matches()) return 1;
        fault = NONE;
        return 0;
    }

    public int fault() {
        return fault;
    }

    public int words(int watch) {
        if (!in(watch, 0, 11)) return OUTSIDE;
        return rule[watch];
    }

    public int due(int tick) {
        if (!in(tick, 0, 20000)) return OUTSIDE;
        return rule[watch(tick, 0)];
    }

    public int count(int what) {
        if (!in(what, 0, 7)) return OUTSIDE;
        goThroughNight(NONE);
        int mounted = 0;
        int lit = 0;
        for (Groove clock : clocks) {
            mounted += clock.grain.length > 0 ? 1 : 0;
            lit += clock.lit != NONE ? 1 : 0;
        }
        return new int[] {balls.size(), heard.size(), links.size(), agains.size(), mounted, lit,
            text.length(), season}[what];
    }
}
