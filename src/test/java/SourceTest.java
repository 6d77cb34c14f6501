import java.io.IOException;
import java.lang.reflect.Constructor;
import java.lang.reflect.Field;
import java.lang.reflect.Method;
import java.lang.reflect.Modifier;
import java.nio.file.Files;
import java.nio.file.Path;
import java.util.Arrays;
import java.util.Set;
import java.util.TreeSet;
import java.util.regex.Matcher;
import java.util.regex.Pattern;
import java.util.stream.Collectors;

/** Rules of LANGUAGE.md that can be seen in the source or in the compiled class. */
public final class SourceTest {
    private static final Check check = new Check();
    private static final String FACE = "again at bar board bound bring burns calm cost count damp dawn draw drops due fault"
        + " feed fill go gone grain hang hear hush jar lay light link looks mount night told pour rate read row scent"
        + " season slow spills sweep watch weighed wipe words";
    private static final String[] BANNED = {"throw", "throws", "try", "catch", "synchronized", "assert", "volatile", "native",
        "Exception", "Error", "Thread", "Random", "System.currentTimeMillis", "System.nanoTime", "protected", "Exact",
        "hashCode", "toString", "HashMap", "String.format", "equals", "Iterator", "instanceof"};

    public static void main(String[] args) throws IOException {
        face();
        nested();
        String source = Files.readString(Path.of("src/main/java/SmellHours.java"));
        String code = withoutComments(source);
        words(code);
        methods(code);
        check.end();
    }

    private static void face() {
        Class<?> face = SmellHours.class;
        check.holds("public and final", Modifier.isPublic(face.getModifiers()) && Modifier.isFinal(face.getModifiers()));
        Set<String> open = new TreeSet<>();
        Set<String> closed = new TreeSet<>();
        for (Method method : face.getDeclaredMethods()) {
            if (Modifier.isPrivate(method.getModifiers())) {
                closed.add(method.getName());
            } else {
                open.add(method.getName());
                check.holds(method + " is public", Modifier.isPublic(method.getModifiers()));
            }
        }
        check.holds("the face is the document's", open.equals(new TreeSet<>(Arrays.asList(FACE.split(" ")))));
        closed.retainAll(open);
        check.holds("no private method bears a public one's name: " + closed, closed.isEmpty());
        for (Constructor<?> constructor : face.getDeclaredConstructors()) {
            check.due("parameters of the constructor", constructor.getParameterCount(), 0);
        }
        Set<String> constants = Arrays.stream(face.getFields()).map(Field::getName).collect(Collectors.toSet());
        check.holds("constants", constants.equals(Set.of("NONE", "UNKNOWN", "OUTSIDE", "NOT", "FULL", "SPENT")));
        for (Field field : face.getDeclaredFields()) {
            boolean isPrivate = Modifier.isPrivate(field.getModifiers());
            check.holds(field + " is private or a constant", isPrivate || constants.contains(field.getName()));
        }
    }

    private static void nested() {
        Class<?>[] nested = SmellHours.class.getDeclaredClasses();
        check.holds("at most twelve classes", nested.length + 1 <= 12);
        for (Class<?> each : nested) {
            check.holds(each + " is static", Modifier.isStatic(each.getModifiers()));
            check.holds(each + " has no class inside", each.getDeclaredClasses().length == 0);
            for (Method method : each.getDeclaredMethods()) {
                check.holds(method + " has at most seven parameters", method.getParameterCount() <= 7);
                check.holds(method + " has a name of its own", !Arrays.asList(FACE.split(" ")).contains(method.getName()));
            }
        }
        for (Class<?> each : nested) {
            for (Field field : each.getDeclaredFields()) {
                boolean isStatic = Modifier.isStatic(field.getModifiers());
                check.holds(field + " is final, if static", !isStatic || Modifier.isFinal(field.getModifiers()));
            }
        }
    }

    private static String withoutComments(String source) {
        return source.replaceAll("(?s)/\\*.*?\\*/", "").replaceAll("//[^\n]*", "");
    }

    private static void words(String code) {
        for (String word : BANNED) {
            check.holds("no " + word, !Pattern.compile("\\b" + Pattern.quote(word) + "\\b").matcher(code).find());
        }
        check.holds("no lambda", !code.contains("->"));
        check.holds("no method reference", !code.contains("::"));
        check.holds("no package", !Pattern.compile("^package", Pattern.MULTILINE).matcher(code).find());
        check.holds("one import", code.split("\nimport ").length + (code.startsWith("import ") ? 1 : 0) <= 2);
        check.holds("no while without a counter", !code.contains("while (true)"));
        check.holds("no static block", !Pattern.compile("static\\s*\\{").matcher(code).find());
        check.holds("plain signs", code.chars().allMatch(sign -> sign < 128));
    }

    /** Methods stay under some sixty lines. */
    private static void methods(String code) {
        Matcher heads = Pattern.compile("(?m)^( +)[a-z][^\n=;]*\\) \\{$").matcher(code);
        while (heads.find()) {
            int end = code.indexOf("\n" + heads.group(1) + "}", heads.end());
            long lines = code.substring(heads.start(), end < 0 ? code.length() : end).lines().count();
            check.holds("at most sixty lines: " + heads.group().trim(), lines <= 60);
        }
    }
}
