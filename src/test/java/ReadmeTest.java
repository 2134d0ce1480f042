import java.io.IOException;
import java.lang.reflect.InvocationTargetException;
import java.lang.reflect.Method;
import java.lang.reflect.Modifier;
import java.nio.file.Files;
import java.nio.file.Path;
import java.util.List;
import java.util.Set;
import java.util.TreeSet;
import java.util.regex.Matcher;
import java.util.regex.Pattern;

/** The calls of README.md answer what it says behind them. */
public final class ReadmeTest {
    private static final String NEW = "ChargeTalk x = new ChargeTalk();";
    private static final Pattern CALL =
        Pattern.compile("x\\.(\\w+)\\(([^)]*)\\); +// (throws \\w+|-?\\d+)(:.*)?");

    private ChargeTalk x = null;
    private final Set<String> called = new TreeSet<>();

    public static void main(String[] args) throws IOException {
        Checks c = new Checks();
        ReadmeTest test = new ReadmeTest();
        boolean inJava = false;
        for (String line : Files.readAllLines(Path.of("README.md"))) {
            if (line.startsWith("```")) {
                inJava = line.equals("```java");
            } else if (inJava) {
                test.line(c, line);
            }
        }
        for (Method m : ChargeTalk.class.getDeclaredMethods()) {
            if (Modifier.isPublic(m.getModifiers())) {
                c.holds("README.md calls " + m.getName(), test.called.contains(m.getName()));
            }
        }
        c.end();
    }

    private void line(Checks c, String line) {
        if (line.equals(NEW)) {
            x = new ChargeTalk();
            return;
        }
        Matcher call = CALL.matcher(line);
        boolean known = x != null && call.matches();
        c.holds("a call with its answer, on an object: " + line, known);
        if (known) {
            String got = answer(call.group(1), List.of(call.group(2).split(", ")));
            c.holds(line + " (the class: " + got + ")", got.equals(call.group(3)));
            called.add(call.group(1));
        }
    }

    private String answer(String name, List<String> words) {
        for (Method m : ChargeTalk.class.getMethods()) {
            if (m.getName().equals(name)) {
                return answer(m, words);
            }
        }
        return "no such method";
    }

    private String answer(Method m, List<String> words) {
        Class<?>[] kinds = m.getParameterTypes();
        Object[] values = new Object[kinds.length];
        for (int i = 0; i < kinds.length; i++) {
            values[i] = value(kinds[i], words.get(i));
        }
        try {
            return m.invoke(x, values).toString();
        } catch (InvocationTargetException e) {
            return "throws " + e.getCause().getClass().getSimpleName();
        } catch (IllegalAccessException e) {
            return "not public";
        }
    }

    private static Object value(Class<?> kind, String word) {
        if (kind == boolean.class) {
            return word.equals("true");
        }
        if (kind == int.class) {
            return Integer.valueOf(word);
        }
        return Long.valueOf(word);
    }
}
