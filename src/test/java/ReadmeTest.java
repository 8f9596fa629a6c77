import java.io.IOException;
import java.lang.reflect.InvocationTargetException;
import java.lang.reflect.Method;
import java.lang.reflect.Modifier;
import java.nio.file.Files;
import java.nio.file.Path;
import java.util.ArrayList;
import java.util.List;
import java.util.TreeSet;
import java.util.regex.Matcher;
import java.util.regex.Pattern;

/** Makes the calls that README.md shows, in its order, and compares what it tells behind them. */
public final class ReadmeTest {
    private static final Path README = Path.of("README.md");
    private static final String MAKING = "CubeForms x = new CubeForms();";
    private static final Pattern CALL =
            Pattern.compile("x\\.(\\w+)\\(([^()]*)\\); *// (-?\\d+|throws \\w+)(:.*)?");

    private ReadmeTest() {
    }

    public static void main(String[] args) throws IOException, IllegalAccessException {
        CubeForms x = null;
        TreeSet<String> shown = new TreeSet<>();
        for (String line : javaLines(Files.readAllLines(README))) {
            Matcher call = CALL.matcher(line);
            if (line.equals(MAKING)) {
                x = new CubeForms();
            } else if (x != null && call.matches()) {
                shown.add(call.group(1));
                told("README.md: " + line, answer(x, call.group(1), call.group(2)), call.group(3));
            } else {
                told("README.md: " + line, "no call with an answer", "one");
            }
        }
        told("README.md shows", shown.toString(), face().toString());
        Check.end("ReadmeTest");
    }

    private static List<String> javaLines(List<String> lines) {
        List<String> inside = new ArrayList<>();
        boolean java = false;
        for (String line : lines) {
            if (line.startsWith("```")) {
                java = line.equals("```java");
            } else if (java && !line.isBlank()) {
                inside.add(line);
            }
        }
        return inside;
    }

    /** What a call answers, written as README.md writes it. */
    private static String answer(CubeForms x, String name, String arguments)
            throws IllegalAccessException {
        String[] texts = arguments.isBlank() ? new String[0] : arguments.split(", *");
        Method method = named(name, texts.length);
        if (method == null) {
            return "there is no such call";
        }
        Object[] numbers = new Object[texts.length];
        for (int i = 0; i < texts.length; i++) {
            long number = Long.decode(texts[i]);
            if (method.getParameterTypes()[i] == int.class) {
                numbers[i] = (int) number;
            } else {
                numbers[i] = number;
            }
        }
        try {
            return method.invoke(x, numbers).toString();
        } catch (InvocationTargetException e) {
            return "throws " + e.getCause().getClass().getSimpleName();
        }
    }

    private static Method named(String name, int parameters) {
        for (Method m : CubeForms.class.getDeclaredMethods()) {
            if (Modifier.isPublic(m.getModifiers()) && m.getName().equals(name)
                    && m.getParameterCount() == parameters) {
                return m;
            }
        }
        return null;
    }

    private static TreeSet<String> face() {
        TreeSet<String> names = new TreeSet<>();
        for (Method m : CubeForms.class.getDeclaredMethods()) {
            if (Modifier.isPublic(m.getModifiers())) {
                names.add(m.getName());
            }
        }
        return names;
    }

    private static void told(String what, String got, String want) {
        if (!got.equals(want)) {
            System.out.println(what + " answered " + got + ", due is " + want);
        }
        Check.due(what + " as due", got.equals(want) ? 1 : 0, 1);
    }
}
