import java.lang.reflect.InvocationTargetException;
import java.lang.reflect.Method;
import java.util.ArrayList;
import java.util.Arrays;
import java.util.Comparator;
import java.util.List;
import java.util.Random;

/** Random runs of 512 calls on an object, all promises: every answer is that of the model, and nothing throws. */
public final class ModelTest {
    private static final int RUNS = 150, CALLS = 512, TRIES = 5000, TEXTS = 4000;
    private static final int[] WILD = {Integer.MIN_VALUE, Integer.MIN_VALUE + 1, -1003, -2, 999999, Integer.MAX_VALUE};
    private static final String[] TOKENS = {"watch", "watch", "bell", "light", "sweep", "sleep", "drum", ",", ";", ";",
        " ", "  ", "0", "1", "11", "12", "007", "9", "wat", "bells", "!", "A"};

    private final Random random;
    private final SmellHours program = new SmellHours();
    private final Model model = new Model();
    private final Method[] methods;
    private final List<String> told = new ArrayList<>();
    private final boolean wild;
    private String text = "";
    private boolean same = true;

    private ModelTest(long seed, Method[] methods) {
        random = new Random(seed);
        this.methods = methods;
        wild = seed % 4 == 3;
    }

    public static void main(String[] args) throws Exception {
        Method[] methods = Arrays.stream(SmellHours.class.getDeclaredMethods())
            .filter(m -> java.lang.reflect.Modifier.isPublic(m.getModifiers()))
            .sorted(Comparator.comparing(Method::getName)).toArray(Method[]::new);
        Check check = new Check();
        check.due("methods", methods.length, 45);
        for (long seed = 0; seed < RUNS && check.wrong() < 3; seed++) {
            new ModelTest(seed, methods).run(seed, check);
        }
        for (long seed = 0; seed < TEXTS && check.wrong() < 3; seed++) {
            new ModelTest(seed, methods).readText(seed, check);
        }
        check.end();
    }

    private void run(long seed, Check check) throws Exception {
        setUp();
        for (int k = 0; k < TRIES && same && told.size() < CALLS; k++) {
            Method method = methods[random.nextInt(methods.length)];
            if (method.getName().matches("calm|dawn|wipe|sweep|mount|board|hush|slow") && random.nextInt(5) != 0) {
                continue;
            }
            call(method.getName(), argumentsOf(method));
        }
        check.holds("run " + seed + (same ? "" : ": " + told), same);
        check.due("calls of run " + seed, same ? told.size() : CALLS, CALLS);
    }

    /** A text with some tokens put in or taken out, and blanks where they may stand or not. */
    private void readText(long seed, Check check) throws Exception {
        StringBuilder all = new StringBuilder(someText());
        int changes = upTo(3);
        for (int k = 0; k < changes; k++) {
            int spot = upTo(all.length());
            if (random.nextBoolean()) {
                all.insert(spot, TOKENS[upTo(TOKENS.length - 1)]);
            } else if (spot < all.length()) {
                all.deleteCharAt(spot);
            }
        }
        for (int k = 0; k < all.length(); k++) {
            call("feed", 1, (long) all.charAt(k));
        }
        call("read");
        call("fault");
        for (int k = 0; k < 12; k++) {
            call("words", k);
        }
        check.holds("text " + seed + ": " + all + " " + told.get(told.size() - 14) + told.get(told.size() - 13), same);
    }

    private Method methodOf(String name) {
        return Arrays.stream(methods).filter(m -> m.getName().equals(name)).findFirst().orElseThrow();
    }

    /** The model is asked where the program need not be, so that an object has its calls for what is held against it. */
    private void call(String name, Object... arguments) throws Exception {
        Method method = methodOf(name);
        Object due = Model.class.getDeclaredMethod(name, method.getParameterTypes()).invoke(model, arguments);
        Object got;
        try {
            got = method.invoke(program, arguments);
        } catch (InvocationTargetException e) {
            got = e.getCause();
        }
        told.add(name + Arrays.toString(arguments) + " = " + got + (got.equals(due) ? "" : ", due is " + due));
        same &= got.equals(due);
    }

    private int upTo(int most) {
        return random.nextInt(most + 1);
    }

    /** Seals with paths, clocks with grains, and some fire, so that later calls meet something. */
    private void setUp() throws Exception {
        for (int s = 0; s < 6; s++) {
            int w = 1 + upTo(5);
            int h = 1 + upTo(5);
            call("board", s, w, h);
            if (random.nextBoolean()) {
                call("draw", s, 0, w * h - 1, 1 + upTo(w * h - 1), false, 0);
            } else {
                wander(s, w, h);
            }
        }
        for (int p = 0; p < 8; p++) {
            call("bring", upTo(3), p, 99);
            call("rate", p, 1 + upTo(59));
        }
        for (int c = 0; c < 4; c++) {
            call("mount", c, upTo(5));
            for (int i = 0; i < 36; i++) {
                int powder = upTo(7);
                int jar = jarWith(powder);
                if (jar != SmellHours.NONE && model.grain(c, i) == SmellHours.NONE && random.nextInt(8) != 0) {
                    call("lay", c, i, powder, jar);
                }
            }
        }
    }

    private int jarWith(int powder) {
        for (int jar = 0; jar < 4; jar++) {
            if (model.jar(jar, powder) > 0) {
                return jar;
            }
        }
        return SmellHours.NONE;
    }

    /** A path to one neighbour after the other, as chance has it, till it could not go on some times. */
    private void wander(int s, int w, int h) throws Exception {
        int square = upTo(w * h - 1);
        int stops = 0;
        for (int k = 0; k < 60 && stops < 6; k++) {
            int ahead = model.told(s, 3);
            call("go", s, square);
            stops += model.told(s, 3) == ahead ? 1 : 0;
            int[] steps = {-w, -1, 1, w};
            square = model.at(s, model.told(s, 3) - 1) + steps[upTo(3)];
        }
    }

    private Object[] argumentsOf(Method method) {
        Object[] plain = plainArguments(method.getName());
        if (random.nextInt(wild ? 4 : 25) == 0 && plain.length > 0) {
            int k = upTo(plain.length - 1);
            if (plain[k] instanceof Integer) {
                int near = (Integer) plain[k] + (random.nextBoolean() ? 1 : -1) * upTo(40);
                plain[k] = random.nextBoolean() ? WILD[upTo(WILD.length - 1)] : near;
            }
        }
        return plain;
    }

    private int tick() {
        return random.nextInt(12) == 0 ? upTo(6000) - 1 : upTo(400);
    }

    private int lateTick() {
        return random.nextInt(4) == 0 ? upTo(20000) : upTo(1500);
    }

    private int cellOf(int c) {
        int cells = 0;
        while (cells < 36 && model.grain(c, cells) != SmellHours.UNKNOWN) {
            cells++;
        }
        return cells == 0 ? 0 : upTo(cells - 1);
    }

    private Object[] plainArguments(String name) {
        int s = upTo(5);
        int c = upTo(3);
        int powder = upTo(7);
        int square = upTo(model.told(s, 0) * model.told(s, 1) - 1);
        int hours = 1 + upTo(11);
        switch (name) {
            case "board": return row(s, 1 + upTo(5), 1 + upTo(5));
            case "bar": return row(s, square, random.nextBoolean());
            case "go": return row(s, square);
            case "wipe": return row(s);
            case "draw": return drawing(s, square);
            case "bound": return row(100 + upTo(600));
            case "told": return row(s, upTo(6));
            case "at": return row(s, upTo(10));
            case "rate": return row(powder, 1 + upTo(59));
            case "damp": return damping();
            case "bring": return row(upTo(3), powder, 1 + upTo(98));
            case "jar": return row(upTo(3), powder);
            case "pour": return row(upTo(3), upTo(3), powder, 1 + upTo(98));
            case "weighed": return row(upTo(8) - 1, upTo(3));
            case "mount": return row(c, s);
            case "lay": return row(c, cellOf(c), powder, upTo(3));
            case "grain": return row(c, cellOf(c));
            case "sweep": return row(c, upTo(3));
            case "row": return row(upTo(11), powder);
            case "fill": case "spills": return row(c, upTo(random.nextInt(5) == 0 ? 99 - hours : 5), hours);
            case "light": case "again": return row(c, cellOf(c), tick());
            case "link": return row(c, cellOf(c), upTo(3));
            case "night": return row(c, upTo(3));
            case "burns": return row(c, cellOf(c), upTo(1));
            case "scent": return row(c, lateTick());
            case "hang": return row(c, cellOf(c));
            case "drops": return row(upTo(11));
            case "hear": return row(hearing());
            case "cost": return row(c);
            case "slow": return row(c, upTo(1));
            case "gone": return going(c);
            case "season": return row(30 + upTo(60));
            case "watch": return row(upTo(20000), upTo(2));
            case "feed": return feeding();
            case "words": return row(upTo(11));
            case "due": return row(upTo(20000));
            case "count": return row(upTo(7));
            default: return row();
        }
    }

    private static Object[] row(Object... arguments) {
        return arguments;
    }

    private Object[] drawing(int s, int square) {
        int squares = model.told(s, 0) * model.told(s, 1);
        int kind = random.nextBoolean() ? 0 : upTo(3);
        return row(s, upTo(squares - 1), square, 1 + upTo(squares - 1), random.nextBoolean(), kind);
    }

    private Object[] damping() {
        int a = upTo(random.nextBoolean() ? 9 : 99);
        return row(a, Math.min(99, a + upTo(9)), upTo(50));
    }

    /** Near to some ball's drop, if that may be. */
    private int hearing() {
        int drop = model.drops(upTo(11));
        return drop >= 0 ? Math.max(0, drop + upTo(30) - 15) : upTo(800);
    }

    private Object[] going(int c) {
        int cell = Math.min(cellOf(c), upTo(4));
        int a = tick();
        return row(c, cell, a + upTo(300), a, a + upTo(300), upTo(60), upTo(2));
    }

    /** Mostly the next bytes of a text of tokens, so that some texts have no fault. */
    private Object[] feeding() {
        if (text.isEmpty()) {
            text = someText();
        }
        int n = Math.min(1 + upTo(7), text.length());
        long bytes = random.nextLong();
        for (int k = 0; k < n; k++) {
            bytes = bytes << 8 | text.charAt(k);
        }
        text = text.substring(n);
        return row(n, bytes);
    }

    private String someText() {
        StringBuilder all = new StringBuilder();
        int clauses = 1 + upTo(2);
        for (int k = 0; k < clauses; k++) {
            all.append("watch ").append(upTo(11)).append(' ').append(TOKENS[2 + upTo(4)]);
            if (random.nextBoolean()) {
                all.append(", ").append(TOKENS[2 + upTo(4)]);
            }
            all.append(';');
        }
        if (random.nextInt(3) == 0) {
            all.append(TOKENS[upTo(TOKENS.length - 1)]);
        }
        return all.toString();
    }
}
