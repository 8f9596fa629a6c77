import java.io.IOException;
import java.lang.reflect.Constructor;
import java.lang.reflect.Field;
import java.lang.reflect.Member;
import java.lang.reflect.Method;
import java.lang.reflect.Modifier;
import java.nio.file.Files;
import java.nio.file.Path;
import java.util.List;
import java.util.TreeSet;
import java.util.regex.Matcher;
import java.util.regex.Pattern;

/** The face is the one that the document shows, with its exceptions, and no more is seen. */
public final class FaceTest {
    private static final Path DOCUMENT = Path.of("../shared/DOC.md");
    private static final Pattern CALL =
            Pattern.compile("    public (int|long) (\\w+)\\((.*)\\)(?: throws (.*))?;");
    private static final int CALLS = 26;

    private FaceTest() {
    }

    public static void main(String[] args) throws IOException {
        TreeSet<String> told = toldFace(Files.readAllLines(DOCUMENT));
        Check.due("calls of the document's face", told.size(), CALLS);
        TreeSet<String> seen = seenFace();
        for (String one : told) {
            holds("the class has: " + one, seen.contains(one));
        }
        for (String one : seen) {
            holds("the document has: " + one, told.contains(one));
        }
        membersAreHidden();
        constructorAndConstant();
        insideClasses();
        Check.end("FaceTest");
    }

    private static TreeSet<String> toldFace(List<String> lines) {
        TreeSet<String> face = new TreeSet<>();
        for (String line : lines) {
            Matcher m = CALL.matcher(line);
            if (m.matches()) {
                String types = m.group(3).replaceAll("(int|long) \\w+", "$1").replace(" ", "");
                String thrown = m.group(4) == null ? "" : m.group(4).replace(" ", "");
                face.add(m.group(1) + " " + m.group(2) + "(" + types + ") " + thrown);
            }
        }
        return face;
    }

    private static TreeSet<String> seenFace() {
        TreeSet<String> face = new TreeSet<>();
        for (Method m : CubeForms.class.getDeclaredMethods()) {
            if (Modifier.isPublic(m.getModifiers())) {
                holds(m + " is static", !Modifier.isStatic(m.getModifiers()));
                face.add(m.getReturnType() + " " + m.getName() + "(" + names(m.getParameterTypes())
                        + ") " + names(m.getExceptionTypes()));
            }
        }
        return face;
    }

    private static String names(Class<?>[] types) {
        StringBuilder all = new StringBuilder();
        for (Class<?> type : types) {
            all.append(all.length() == 0 ? "" : ",").append(type.getSimpleName());
        }
        return all.toString();
    }

    private static void membersAreHidden() {
        for (Method m : CubeForms.class.getDeclaredMethods()) {
            holds(m + " is hidden", m.isSynthetic() || isPublicOrPrivate(m));
        }
        for (Field f : CubeForms.class.getDeclaredFields()) {
            holds(f + " is hidden", f.isSynthetic() || isPublicOrPrivate(f));
            holds(f + " is the constant", !Modifier.isPublic(f.getModifiers())
                    || f.getName().equals("NONE"));
        }
    }

    private static boolean isPublicOrPrivate(Member m) {
        return Modifier.isPublic(m.getModifiers()) || Modifier.isPrivate(m.getModifiers());
    }

    private static void constructorAndConstant() {
        holds("the class is public and final", Modifier.isFinal(CubeForms.class.getModifiers())
                && Modifier.isPublic(CubeForms.class.getModifiers()));
        Constructor<?>[] all = CubeForms.class.getDeclaredConstructors();
        Check.due("constructors", all.length, 1);
        holds("the constructor is public, takes and throws nothing",
                Modifier.isPublic(all[0].getModifiers()) && all[0].getParameterCount() == 0
                        && all[0].getExceptionTypes().length == 0);
        try {
            Field none = CubeForms.class.getDeclaredField("NONE");
            holds("NONE is an int constant", none.getType() == int.class
                    && none.getModifiers() == (Modifier.PUBLIC | Modifier.STATIC | Modifier.FINAL));
        } catch (NoSuchFieldException e) {
            holds("NONE is there", false);
        }
        Check.due("NONE", CubeForms.NONE, -1);
    }

    private static void insideClasses() {
        for (Class<?> inside : CubeForms.class.getDeclaredClasses()) {
            int mod = inside.getModifiers();
            holds(inside + " is static", Modifier.isStatic(mod));
            holds(inside + " is hidden", !Modifier.isPublic(mod) && !Modifier.isProtected(mod));
        }
    }

    private static void holds(String what, boolean good) {
        Check.due(what, good ? 1 : 0, 1);
    }
}
