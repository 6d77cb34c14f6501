import java.io.IOException;
import java.lang.reflect.Method;
import java.lang.reflect.Modifier;
import java.nio.file.Files;
import java.nio.file.Path;
import java.util.ArrayList;
import java.util.Arrays;
import java.util.LinkedHashMap;
import java.util.List;
import java.util.Map;
import java.util.Set;
import java.util.TreeSet;
import java.util.regex.Matcher;
import java.util.regex.Pattern;
import java.util.stream.Collectors;
import java.util.stream.Stream;

/**
 * The document from its first line: the class has its face, its promises stand in the order of the face, and each word
 * of its terms and promises stands in a sentence that an EdgesTest quotes, in its own promise or in the terms.
 */
public final class DocumentTest {
    private static final Check check = new Check();
    private static final Path TESTS = Path.of("src/test/java");
    private static final Path CLASS = Path.of("src/main/java/SmellHours.java");
    /** What the terms say of the document itself. */
    private static final String OF_ITSELF = "Words in capitals are told where they come first.";
    private static final Pattern SIGNATURE = Pattern.compile("public (\\w+) (\\w+)\\(([^)]*)\\)");
    private static final Pattern SENTENCE = Pattern.compile("sentence\\(\\s*(\\d+)\\s*,\\s*((?:\"(?:[^\"\\\\]|\\\\.)*\"[\\s+]*)+)");
    private static final Pattern TEXT = Pattern.compile("\"((?:[^\"\\\\]|\\\\.)*)\"");

    private final Map<String, String> parts = new LinkedHashMap<>();
    private final List<String> names = new ArrayList<>();
    private final Map<Integer, String> promises = new LinkedHashMap<>();
    private final Map<Integer, boolean[]> quoted = new LinkedHashMap<>();

    public static void main(String[] args) throws IOException {
        DocumentTest test = new DocumentTest(Files.readString(Path.of("../shared/DOC.md")));
        String source = Files.readString(CLASS);
        test.face();
        test.order(source);
        test.constants();
        test.headings();
        test.namesAheadOfCalls(source);
        test.quotes();
        test.eachWord();
        check.end();
    }

    private DocumentTest(String document) {
        for (String part : document.split("(?m)^## ")) {
            int line = part.indexOf('\n');
            parts.put(part.substring(0, line).trim(), part.substring(line + 1));
        }
        Matcher calls = SIGNATURE.matcher(parts.get("The public face"));
        while (calls.find()) {
            names.add(calls.group(2));
        }
        take(0, parts.get("Terms").replaceAll("```(text)?", "").replaceAll("(?m)^Ahead of the calls.*$", "")
            .replaceAll("======== [1-5] ", "").replace(OF_ITSELF, ""));
        for (int n = 1; n <= names.size() + 1; n++) {
            take(n, parts.get(heading(n)).replaceFirst("`[^`]*`:", ""));
        }
    }

    /** The terms have the number 0. */
    private void take(int n, String text) {
        promises.put(n, inOneLine(text));
        quoted.put(n, new boolean[inOneLine(text).length()]);
    }

    private String heading(int n) {
        return "Promise " + n + ": " + (n == 1 ? "A new object" : names.get(n - 2));
    }

    private static String inOneLine(String text) {
        return text.replaceAll("\\s+", " ").trim();
    }

    /** "int go(int, int)", so that a call of the document and one of the class can be held against one another. */
    private static String shape(String type, String name, Stream<String> parameters) {
        return type + " " + name + parameters.collect(Collectors.joining(", ", "(", ")"));
    }

    private void face() {
        Set<String> asked = asked();
        Set<String> built = built();
        asked.forEach(each -> check.holds("the class has " + each, built.contains(each)));
        built.forEach(each -> check.holds("the document has " + each, asked.contains(each)));
        check.due("calls of the face", built.size(), names.size());
    }

    private Set<String> asked() {
        Set<String> shapes = new TreeSet<>();
        Matcher calls = SIGNATURE.matcher(parts.get("The public face"));
        while (calls.find()) {
            Stream<String> parameters = Arrays.stream(calls.group(3).split(", ")).filter(each -> !each.isEmpty());
            shapes.add(shape(calls.group(1), calls.group(2), parameters.map(each -> each.split(" ")[0])));
        }
        return shapes;
    }

    private static Set<String> built() {
        Set<String> shapes = new TreeSet<>();
        for (Method method : SmellHours.class.getDeclaredMethods()) {
            if (Modifier.isPublic(method.getModifiers())) {
                Stream<String> types = Arrays.stream(method.getParameterTypes()).map(Class::getName);
                shapes.add(shape(method.getReturnType().getName(), method.getName(), types));
            }
        }
        return shapes;
    }

    private void order(String source) {
        List<String> own = new ArrayList<>();
        Matcher calls = Pattern.compile("(?m)^    public int (\\w+)\\(").matcher(source);
        while (calls.find()) {
            own.add(calls.group(1));
        }
        check.holds("calls stand in the order of the face", own.equals(names));
    }

    private void constants() {
        int[] values = {SmellHours.NONE, SmellHours.UNKNOWN, SmellHours.OUTSIDE, SmellHours.NOT, SmellHours.FULL, SmellHours.SPENT};
        Matcher told = Pattern.compile("([A-Z]+) = (-\\d+)").matcher(parts.get("The public face"));
        int k = 0;
        while (told.find()) {
            check.due(told.group(1), k < values.length ? values[k] : 0, Integer.parseInt(told.group(2)));
            k++;
        }
        check.due("constants", k, values.length);
    }

    /** Each promise names its call just as the face does. */
    private void headings() {
        long told = parts.keySet().stream().filter(each -> each.startsWith("Promise ")).count();
        check.due("promises", told, names.size() + 1);
        String face = parts.get("The public face");
        for (int n = 1; n <= names.size() + 1; n++) {
            Matcher call = Pattern.compile("`([^`]*)`:").matcher(parts.get(heading(n)));
            check.holds(heading(n) + " is a call of the face", call.find() && face.contains("public " + call.group(1) + ";"));
        }
    }

    private void namesAheadOfCalls(String source) {
        Matcher told = Pattern.compile("Ahead of the calls `(\\w+)`.* the interface says: (---- .*)\\.").matcher(parts.get("Terms"));
        int found = 0;
        while (told.find()) {
            String ahead = "    // " + told.group(2) + "\n\n    public int " + told.group(1) + "(";
            check.holds(told.group(2) + " stands ahead of " + told.group(1), source.contains(ahead));
            found++;
        }
        check.due("names ahead of calls", found, 6);
    }

    private void quotes() throws IOException {
        List<Path> files;
        try (Stream<Path> all = Files.list(TESTS)) {
            files = all.filter(each -> each.toString().endsWith("EdgesTest.java")).sorted().toList();
        }
        check.due("tests that quote", files.size(), 6);
        for (Path file : files) {
            Matcher sentences = SENTENCE.matcher(Files.readString(file));
            while (sentences.find()) {
                StringBuilder words = new StringBuilder();
                TEXT.matcher(sentences.group(2)).results().forEach(each -> words.append(each.group(1)));
                quote(Integer.parseInt(sentences.group(1)), inOneLine(words.toString()));
            }
        }
    }

    private void quote(int promise, String words) {
        boolean isOfTerms = mark(0, words);
        boolean isOfPromise = mark(promise, words);
        check.holds("promise " + promise + " or the terms say: " + words, isOfTerms || isOfPromise);
    }

    private boolean mark(int n, String words) {
        String text = promises.getOrDefault(n, "");
        int first = text.indexOf(words);
        for (int from = first; from >= 0; from = text.indexOf(words, from + 1)) {
            Arrays.fill(quoted.get(n), from, from + words.length(), true);
        }
        return first >= 0;
    }

    private void eachWord() {
        promises.forEach((n, text) -> {
            StringBuilder left = new StringBuilder();
            for (int k = 0; k < text.length(); k++) {
                left.append(quoted.get(n)[k] ? '|' : text.charAt(k));
            }
            String where = n == 0 ? "the terms" : heading(n);
            for (String words : left.toString().split("\\|+")) {
                boolean isTold = words.chars().anyMatch(Character::isLetterOrDigit);
                check.holds("a test of " + where + ": '" + words.trim() + "'", !isTold);
            }
        });
    }
}
