import java.lang.reflect.Field;
import java.lang.reflect.Method;
import java.lang.reflect.Modifier;
import java.nio.file.Files;
import java.nio.file.Path;
import java.util.Set;
import java.util.TreeSet;
import java.util.regex.Matcher;
import java.util.regex.Pattern;

/** The words and signs that LANGUAGE.md rules out, and its lengths and counts, looked for in the source and the classes. */
public final class LanguageTest {
    private static final String[] RULED_OUT = {
        "\\b(throw|throws|try|catch|finally|synchronized|assert|volatile|transient|native)\\b",
        "->", "::", "\\bimport\\s+(?!java\\.util\\.(Arrays|ArrayList|List|Iterator);)", "\\bpackage\\b",
        "\\b(hashCode|toString|System\\.(?!arraycopy)|Thread|Object|Exception|Error)\\b", "Exact\\b",
        "\\bstatic\\s*\\{", "@(?!Override)\\w+", "\\bprotected\\b",
    };
    private static final Set<Class<?>> CONSTANTS = Set.of(int.class, long.class, boolean.class, char.class, String.class,
        int[].class, long[].class, char[].class, byte[].class);

    public static void main(String[] args) throws Exception {
        String source = Files.readString(Path.of("src/main/java/SecondHome.java"));
        String code = source.replaceAll("(?s)/\\*.*?\\*/", " ").replaceAll("//[^\n]*", " ")
            .replaceAll("\"[^\"\n]*\"", "\"\"");
        for (String words : RULED_OUT) {
            Matcher m = Pattern.compile(words).matcher(code);
            Check.due(words + (m.find() ? " stands there: " + m.group() : ""), m.reset().find() ? 1 : 0, 0);
        }
        classes();
        methodLengths(source);
        Check.end();
    }

    /** Rules 1, 2, 5 and 11, as far as the compiled classes tell; FaceTest compares the face itself. */
    private static void classes() {
        Class<?>[] inside = SecondHome.class.getDeclaredClasses();
        Check.due("classes of the file", inside.length + 1 > 12 ? inside.length + 1 : 0, 0);
        Set<String> face = new TreeSet<>();
        for (Method m : SecondHome.class.getDeclaredMethods()) {
            if (Modifier.isPublic(m.getModifiers())) {
                face.add(m.getName());
            }
        }
        members(SecondHome.class, face);
        for (Class<?> c : inside) {
            Check.due(c + " is static", Modifier.isStatic(c.getModifiers()) ? 1 : 0, 1);
            Check.due(c + " is not seen", Modifier.isPublic(c.getModifiers()) ? 1 : 0, 0);
            Check.due(c + " has no class inside", c.getDeclaredClasses().length, 0);
            members(c, face);
        }
    }

    private static void members(Class<?> c, Set<String> face) {
        int own = 0;
        for (Field f : c.getDeclaredFields()) {
            boolean isStatic = Modifier.isStatic(f.getModifiers());
            own += isStatic ? 0 : 1;
            boolean fine = Modifier.isFinal(f.getModifiers()) && CONSTANTS.contains(f.getType());
            Check.due(f + " is a constant", isStatic && !fine ? 1 : 0, 0);
        }
        Check.due("fields of " + c, own > 20 ? own : 0, 0);
        for (Method m : c.getDeclaredMethods()) {
            int parameters = m.getParameterCount();
            Check.due("parameters of " + m, parameters > 7 ? parameters : 0, 0);
            boolean isPrivate = Modifier.isPrivate(m.getModifiers());
            Check.due(m + " bears a public name", isPrivate && face.contains(m.getName()) ? 1 : 0, 0);
        }
    }

    private static void methodLengths(String source) {
        String[] lines = source.split("\n");
        for (int i = 0; i < lines.length; i++) {
            Matcher m = Pattern.compile("^( {4}| {8})\\S.*\\(.*\\) \\{$").matcher(lines[i]);
            if (!m.matches()) {
                continue;
            }
            int end = i;
            while (!lines[end].equals(m.group(1) + "}")) {
                end++;
            }
            Check.due("lines of " + lines[i].trim(), end - i > 60 ? end - i : 0, 0);
        }
    }
}
