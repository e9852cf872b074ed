import java.nio.file.Files;
import java.nio.file.Path;
import java.util.regex.Matcher;
import java.util.regex.Pattern;

/** The words and signs that LANGUAGE.md rules out, and its lengths, looked for in the source. */
public final class LanguageTest {
    private static final String[] RULED_OUT = {
        "\\b(throw|throws|try|catch|finally|synchronized|assert|volatile|transient|native)\\b",
        "->", "::", "\\bimport\\s+(?!java\\.util\\.(Arrays|ArrayList|List|Iterator);)", "\\bpackage\\b",
        "\\b(hashCode|toString|System\\.(?!arraycopy)|Thread|Object|Exception|Error)\\b", "Exact\\b",
        "\\bstatic\\s*\\{", "@(?!Override)\\w+", "\\bprotected\\b",
    };
    private static final String FACE = "let runner of set turn as wish line seconds now place prize score leads on home"
        + " prizeBy leaders passes race pace kind start favours friend deal fair odds unwilling feed wipe text sheet"
        + " write copy lays film read image undo tear count status";

    public static void main(String[] args) throws Exception {
        String source = Files.readString(Path.of("src/main/java/SecondHome.java"));
        String code = source.replaceAll("(?s)/\\*.*?\\*/", " ").replaceAll("//[^\n]*", " ")
            .replaceAll("\"[^\"\n]*\"", "\"\"");
        for (String words : RULED_OUT) {
            Matcher m = Pattern.compile(words).matcher(code);
            Check.due(words + (m.find() ? " stands there: " + m.group() : ""), m.reset().find() ? 1 : 0, 0);
        }
        publicMembers(code);
        methodLengths(source);
        Check.end();
    }

    private static void publicMembers(String code) {
        Matcher m = Pattern.compile("public (int|long) (\\w+)\\(").matcher(code);
        StringBuilder names = new StringBuilder();
        while (m.find()) {
            names.append(names.length() == 0 ? "" : " ").append(m.group(2));
        }
        Check.due("public methods are " + names, names.toString().equals(FACE) ? 1 : 0, 1);
        Matcher all = Pattern.compile("\\bpublic\\b").matcher(code);
        Check.due("how often public stands", all.results().count(), FACE.split(" ").length + 2);
        Matcher inner = Pattern.compile("private [\\w\\[\\]]+ (" + FACE.replace(' ', '|') + ")\\(").matcher(code);
        Check.due("private methods with public names", inner.find() ? 1 : 0, 0);
    }

    private static void methodLengths(String source) {
        String[] lines = source.split("\n");
        for (int i = 0; i < lines.length; i++) {
            Matcher m = Pattern.compile("^( {4}| {8})\\S.*\\(.*\\) \\{$").matcher(lines[i]);
            if (!m.matches()) {
                continue;
            }
            int end = i;
            while (!lines[end].equals(m.group(1) + "}")) {
                end++;
            }
            Check.due("lines of " + lines[i].trim(), end - i > 60 ? end - i : 0, 0);
        }
    }
}
