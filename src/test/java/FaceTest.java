import java.lang.reflect.Constructor;
import java.lang.reflect.Field;
import java.lang.reflect.Method;
import java.lang.reflect.Modifier;
import java.nio.file.Files;
import java.nio.file.Path;
import java.util.ArrayList;
import java.util.Arrays;
import java.util.List;
import java.util.Set;
import java.util.TreeSet;
import java.util.regex.MatchResult;
import java.util.regex.Pattern;
import java.util.stream.Collectors;

/** "The public face" of the document, and what it says stands ahead of which calls, compared with the class itself. */
public final class FaceTest {
    private static final Pattern SIGNATURE = Pattern.compile("public (int|long) (\\w+)\\(([^)]*)\\);");
    private static final Pattern AHEAD = Pattern.compile("Ahead of the calls ([^\n]*) the interface says: (---- [^\n]*)\\.");

    public static void main(String[] args) throws Exception {
        String document = Files.readString(Path.of("../shared/DOC.md"));
        Check.due("calls of the document", SIGNATURE.matcher(document).results().count(), 43);
        theClass();
        theCalls(document);
        nothingElseIsSeen();
        whatTheInterfaceSays(document, Files.readString(Path.of("src/main/java/SecondHome.java")));
        Check.end();
    }

    private static void theClass() {
        int modifiers = SecondHome.class.getModifiers();
        Check.due("public", Modifier.isPublic(modifiers) ? 1 : 0, 1);
        Check.due("final", Modifier.isFinal(modifiers) ? 1 : 0, 1);
        Check.due("its package has no name", SecondHome.class.getPackageName().length(), 0);
        Constructor<?>[] made = SecondHome.class.getDeclaredConstructors();
        Check.due("constructors", made.length, 1);
        Check.due("public constructor", Modifier.isPublic(made[0].getModifiers()) ? 1 : 0, 1);
        Check.due("numbers for it", made[0].getParameterCount(), 0);
    }

    /** Each with what it takes and answers; no other one is public. */
    private static void theCalls(String document) {
        Set<String> told = SIGNATURE.matcher(document).results().map(FaceTest::told)
            .collect(Collectors.toCollection(TreeSet::new));
        Set<String> there = Arrays.stream(SecondHome.class.getDeclaredMethods())
            .filter(m -> Modifier.isPublic(m.getModifiers())).map(FaceTest::there)
            .collect(Collectors.toCollection(TreeSet::new));
        Check.due("public calls " + there + ", due " + told, there.equals(told) ? 1 : 0, 1);
    }

    private static String told(MatchResult call) {
        String types = Arrays.stream(call.group(3).split(", ")).map(p -> p.split(" ")[0])
            .collect(Collectors.joining(", "));
        return call.group(1) + " " + call.group(2) + "(" + types + ")";
    }

    private static String there(Method m) {
        String types = Arrays.stream(m.getParameterTypes()).map(Class::getName).collect(Collectors.joining(", "));
        return m.getReturnType().getName() + " " + m.getName() + "(" + types + ")";
    }

    private static void nothingElseIsSeen() {
        for (Method m : SecondHome.class.getDeclaredMethods()) {
            boolean fine = Modifier.isPublic(m.getModifiers()) && !Modifier.isStatic(m.getModifiers())
                || Modifier.isPrivate(m.getModifiers());
            Check.due("a call of the face or private: " + m.getName(), fine ? 1 : 0, 1);
        }
        for (Field f : SecondHome.class.getDeclaredFields()) {
            Check.due("private: " + f.getName(), Modifier.isPrivate(f.getModifiers()) ? 1 : 0, 1);
        }
    }

    private static void whatTheInterfaceSays(String document, String source) {
        List<String> due = new ArrayList<>();
        AHEAD.matcher(document).results().forEach(a -> {
            due.add(a.group(2));
            due.addAll(Arrays.asList(a.group(1).replace("`", "").split(", ")));
        });
        List<String> there = Pattern.compile("    // (---- .*)|    public (?:int|long) (\\w+)\\(").matcher(source).results()
            .map(r -> r.group(1) == null ? r.group(2) : r.group(1)).collect(Collectors.toList());
        List<String> face = there.subList(0, Math.min(due.size(), there.size()));
        Check.due("what the interface says: " + face + ", due " + due, face.equals(due) ? 1 : 0, 1);
        Check.due("headings and calls of the document", due.size(), 7 + 43);
    }
}
