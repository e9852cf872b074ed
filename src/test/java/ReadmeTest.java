import java.lang.reflect.Modifier;
import java.nio.file.Files;
import java.nio.file.Path;
import java.util.Arrays;
import java.util.Set;
import java.util.TreeSet;
import java.util.regex.Matcher;
import java.util.regex.Pattern;
import java.util.stream.Collectors;

/** The program that README.md shows: each line is a call with its answer, and each call of the class is there. */
public final class ReadmeTest {
    private static final Pattern BLOCK = Pattern.compile("(?s)```(\\w+)\n(.*?)```");
    private static final Pattern NEW = Pattern.compile("(SecondHome )?x = new SecondHome\\(\\);");
    private static final Pattern CALL = Pattern.compile("x\\.(\\w+)\\(([^()]*)\\);\\s+// (-?\\d+)(: .+)?");
    private static final String[] FINDINGS = {"BEYOND", "FULL", "KIND", "NONE", "STATE", "MISSING", "SIZE"};

    public static void main(String[] args) throws Exception {
        String readme = Files.readString(Path.of("README.md"));
        Set<String> shown = new TreeSet<>();
        Set<Long> answers = new TreeSet<>();
        SecondHome x = null;
        for (String line : linesOf("java", readme)) {
            Matcher call = CALL.matcher(line);
            if (NEW.matcher(line).matches()) {
                Check.due("only the first declares: " + line, line.startsWith("Second") ? 1 : 0, x == null ? 1 : 0);
                x = new SecondHome();
            } else if (x != null && call.matches()) {
                long due = Long.parseLong(call.group(3));
                Check.due("README.md: " + line, Edge.call(x, call.group(1), numbers(call.group(2))), due);
                namesItsFinding(line, due);
                shown.add(call.group(1));
                answers.add(due);
            } else {
                Check.fault("README.md shows no call with an answer: " + line);
            }
        }
        for (String name : face()) {
            Check.due("README.md shows " + name, shown.contains(name) ? 1 : 0, 1);
        }
        for (int i = 0; i < FINDINGS.length; i++) {
            Check.due("README.md shows " + FINDINGS[i], answers.contains((long) Check.BEYOND - i) ? 1 : 0, 1);
        }
        howToRunTheTests(readme);
        Check.end();
    }

    private static String[] linesOf(String language, String readme) {
        return BLOCK.matcher(readme).results().filter(b -> b.group(1).equals(language))
            .flatMap(b -> b.group(2).lines()).toArray(String[]::new);
    }

    private static long[] numbers(String told) {
        return told.isEmpty() ? new long[0]
            : Arrays.stream(told.split(", ")).mapToLong(Long::decode).toArray();
    }

    private static void namesItsFinding(String line, long answer) {
        if (answer < -1000000000) {
            String name = FINDINGS[(int) (Check.BEYOND - answer)];
            Check.due(line + " is named " + name, line.contains(name) ? 1 : 0, 1);
        }
    }

    private static Set<String> face() {
        return Arrays.stream(SecondHome.class.getDeclaredMethods()).filter(m -> Modifier.isPublic(m.getModifiers()))
            .map(m -> m.getName()).collect(Collectors.toCollection(TreeSet::new));
    }

    /** The commands that it tells: .ci/run is one of them, and what they name is there. */
    private static void howToRunTheTests(String readme) {
        String commands = String.join("\n", linesOf("sh", readme));
        Check.due("README.md tells .ci/run", commands.lines().anyMatch(".ci/run"::equals) ? 1 : 0, 1);
        Check.due(".ci/run can be run", Files.isExecutable(Path.of(".ci/run")) ? 1 : 0, 1);
        Matcher test = Pattern.compile("java -cp \\S+ (\\w+)").matcher(commands);
        while (test.find()) {
            Path source = Path.of("src/test/java", test.group(1) + ".java");
            Check.due(source + " is there", Files.exists(source) ? 1 : 0, 1);
        }
    }
}
