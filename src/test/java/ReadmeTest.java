import java.io.IOException;
import java.lang.reflect.Method;
import java.lang.reflect.Modifier;
import java.nio.file.Files;
import java.nio.file.Path;
import java.util.Set;
import java.util.TreeSet;
import java.util.regex.Matcher;
import java.util.regex.Pattern;

/** README.md's run of calls: each answers what stands behind it, and every call of the class is among them. */
public final class ReadmeTest {
    private static final Check check = new Check();
    private static final Pattern BLOCK = Pattern.compile("(?s)```java\n(.*?)```");
    private static final Pattern CALL = Pattern.compile("x\\.(\\w+)\\(([^)]*)\\); +// (-?\\d+)\\b.*");
    private static final String OBJECT = "SmellHours x = new SmellHours();";

    private final Set<String> called = new TreeSet<>();
    private SmellHours x;
    private int calls;

    public static void main(String[] args) throws IOException, ReflectiveOperationException {
        ReadmeTest test = new ReadmeTest();
        Matcher blocks = BLOCK.matcher(Files.readString(Path.of("README.md")));
        while (blocks.find()) {
            for (String line : blocks.group(1).split("\n")) {
                test.run(line);
            }
        }
        test.allCalls();
        check.holds("at most 512 calls", test.calls <= 512);
        check.end();
    }

    private void run(String line) throws ReflectiveOperationException {
        if (line.equals(OBJECT)) {
            x = new SmellHours();
            return;
        }
        Matcher call = CALL.matcher(line);
        boolean isCall = x != null && call.matches();
        check.holds("a call with its answer: " + line, isCall);
        if (isCall) {
            String[] told = call.group(2).isEmpty() ? new String[0] : call.group(2).split(", ");
            called.add(call.group(1));
            calls++;
            check.due(line, answer(call.group(1), told), Integer.parseInt(call.group(3)));
        }
    }

    private int answer(String name, String[] told) throws ReflectiveOperationException {
        for (Method method : SmellHours.class.getMethods()) {
            if (method.getName().equals(name) && method.getParameterCount() == told.length) {
                Object[] given = new Object[told.length];
                for (int k = 0; k < told.length; k++) {
                    given[k] = value(told[k], method.getParameterTypes()[k]);
                }
                return (int) method.invoke(x, given);
            }
        }
        check.holds(name + " with " + told.length + " numbers", false);
        return 0;
    }

    private static Object value(String told, Class<?> type) {
        if (type == boolean.class) {
            return Boolean.valueOf(told);
        }
        if (type == long.class) {
            return Long.decode(told.substring(0, told.length() - 1));
        }
        return told.equals("SmellHours.NONE") ? SmellHours.NONE : Integer.parseInt(told);
    }

    private void allCalls() {
        for (Method method : SmellHours.class.getDeclaredMethods()) {
            if (Modifier.isPublic(method.getModifiers())) {
                check.holds(method.getName() + " is called", called.contains(method.getName()));
            }
        }
    }
}
