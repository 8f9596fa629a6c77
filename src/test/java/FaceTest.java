import java.io.IOException;
import java.lang.reflect.Constructor;
import java.lang.reflect.Field;
import java.lang.reflect.Method;
import java.lang.reflect.Modifier;
import java.nio.file.Files;
import java.nio.file.Path;
import java.util.ArrayList;
import java.util.List;
import java.util.TreeSet;
import java.util.regex.Matcher;
import java.util.regex.Pattern;

/** The face is the document's and no more; the source keeps to what can be seen of LANGUAGE.md. */
public final class FaceTest {
    private static final Path SOURCE = Path.of("src/main/java/CubeForms.java");
    private static final List<String> FACE = List.of(
            "int feed(int,int,int,int,int)", "int text(int)", "int mix(int)", "int fault()",
            "int form(int)", "int edge(int)", "int add(int,int)", "int grow(int,int)",
            "int fold(int)", "int undo()", "int told(int)", "int side(int,int)", "int value(int)",
            "int at(int,int)", "long number(int)", "long sum(int,int)", "int reads(int,int)",
            "int writes(int)", "long slab(int,int)", "int other(int,int)", "long cost(int,int)",
            "int cheapest(int)", "int window(int)", "int least(long,int)", "long print()",
            "int status(int)");
    private static final List<String> NOT_WRITTEN = List.of("try", "catch", "finally", "assert",
            "synchronized", "->", "::", "import java.util.Arrays", "Exact(", "package ", "ordinal(",
            "hashCode", "toString", "instanceof", "System.out", "Random", "nanoTime");

    private FaceTest() {
    }

    public static void main(String[] args) throws IOException {
        face();
        members();
        source(Files.readAllLines(SOURCE));
        Check.end("FaceTest");
    }

    private static void face() {
        TreeSet<String> seen = new TreeSet<>();
        for (Method m : CubeForms.class.getDeclaredMethods()) {
            if (Modifier.isPublic(m.getModifiers())) {
                StringBuilder s = new StringBuilder(m.getReturnType() + " " + m.getName() + "(");
                for (Class<?> p : m.getParameterTypes()) {
                    s.append(s.charAt(s.length() - 1) == '(' ? "" : ",").append(p);
                }
                seen.add(s.append(')').toString());
            }
        }
        told("the face is not the document's: " + seen, seen.equals(new TreeSet<>(FACE)));
        told("public and final", Modifier.isFinal(CubeForms.class.getModifiers())
                && Modifier.isPublic(CubeForms.class.getModifiers()));
    }

    private static void members() {
        for (Method m : CubeForms.class.getDeclaredMethods()) {
            int mod = m.getModifiers();
            told(m + " is seen", Modifier.isPublic(mod) || Modifier.isPrivate(mod)
                    || m.isSynthetic());
            for (String one : FACE) {
                told(m + " bears a public name", Modifier.isPublic(mod)
                        || !one.contains(" " + m.getName() + "("));
            }
        }
        for (Field f : CubeForms.class.getDeclaredFields()) {
            told(f + " is seen", Modifier.isPrivate(f.getModifiers()) || f.getName().equals("NONE"));
            told(f + " is static, not final", !Modifier.isStatic(f.getModifiers())
                    || Modifier.isFinal(f.getModifiers()));
        }
        for (Constructor<?> c : CubeForms.class.getDeclaredConstructors()) {
            told(c + " takes something", c.getParameterCount() == 0);
        }
        for (Class<?> inside : CubeForms.class.getDeclaredClasses()) {
            told(inside + " is not static", Modifier.isStatic(inside.getModifiers()));
            told(inside + " is public", !Modifier.isPublic(inside.getModifiers()));
            for (Method m : inside.getDeclaredMethods()) {
                told(m + " takes more than seven", m.getParameterCount() <= 7);
                for (String one : FACE) {
                    told(m + " bears a public name", !one.contains(" " + m.getName() + "("));
                }
            }
        }
    }

    private static void source(List<String> lines) {
        Pattern head = Pattern.compile("^( +)[^*/]*\\) *(throws .*)?\\{$");
        int from = 0;
        String indent = null;
        List<String> code = new ArrayList<>();
        for (int i = 0; i < lines.size(); i++) {
            String line = lines.get(i);
            told("line " + (i + 1) + " is too long", line.length() <= 100);
            Matcher m = head.matcher(line);
            if (indent == null && m.matches() && !line.matches(" +[A-Z]+\\(.*")) {
                indent = m.group(1);
                from = i;
            } else if (indent != null && line.equals(indent + "}")) {
                told("the method at line " + (from + 1) + " is too long", i - from <= 60);
                indent = null;
            }
            code.add(line.replaceAll("//.*|^ *(/\\*\\*|\\*).*", ""));
        }
        for (String one : NOT_WRITTEN) {
            for (String line : code) {
                told(one + " in: " + line, !Pattern.compile("(^|\\W)" + Pattern.quote(one)
                        + (one.matches("\\w+") ? "\\W" : "")).matcher(line + " ").find());
            }
        }
    }

    private static void told(String what, boolean good) {
        Check.due(what, good ? 1 : 0, 1);
    }
}
