import java.io.IOException;
import java.nio.file.Files;
import java.nio.file.Path;
import java.util.ArrayList;
import java.util.Arrays;
import java.util.List;
import java.util.regex.MatchResult;
import java.util.regex.Pattern;
import java.util.stream.Collectors;

/** Each word of the Terms and of the promises stands in the quote of some test (Edge.promise, Edge.terms). */
public final class SentencesTest {
    private static final Pattern QUOTE =
        Pattern.compile("Edge\\.(promise|terms)\\((\\d+),\\s*((?:\"(?:[^\"\\\\]|\\\\.)*\"[\\s+]*)+)\\)");
    private static final Pattern TEXT = Pattern.compile("\"((?:[^\"\\\\]|\\\\.)*)\"");
    /** What is no sentence: numbers of sections, fences, and the headings, which FaceTest compares. */
    private static final String NO_SENTENCE = "[123]\\. (?=LENGTH of |ON: |SHEETS 0)|```(text)? ?|Ahead of the calls .*|## Not promised.*";

    public static void main(String[] args) throws IOException {
        String document = Files.readString(Path.of("../shared/DOC.md")).replaceAll("\\s+", " ");
        String[] sections = document.split("## (?=Promise \\d+: )");
        sections[0] = sections[0].substring(sections[0].indexOf("## Terms") + "## Terms".length());
        for (int i = 1; i < sections.length; i++) {
            sections[i] = sections[i].replaceFirst("Promise .*?\\)`: ", "");
        }
        List<MatchResult> quotes = quotes();
        Check.due("quotes were found", quotes.isEmpty() ? 0 : 1, 1);
        for (int i = 0; i < sections.length; i++) {
            for (String words : unquoted(i, sections[i].replaceAll(NO_SENTENCE, ""), quotes)) {
                Check.fault((i == 0 ? "Terms" : "promise " + i) + ": no test quotes '" + words + "'");
            }
            Check.due("section " + i, sections[i].isBlank() ? 1 : 0, 0);
        }
        Check.end();
    }

    private static List<MatchResult> quotes() throws IOException {
        List<MatchResult> found = new ArrayList<>();
        try (var files = Files.list(Path.of("src/test/java"))) {
            for (Path file : files.collect(Collectors.toList())) {
                found.addAll(QUOTE.matcher(Files.readString(file)).results().collect(Collectors.toList()));
            }
        }
        return found;
    }

    /** What is left of a section when each quote that belongs to it is taken out wherever it stands. */
    private static List<String> unquoted(int number, String section, List<MatchResult> quotes) {
        char[] left = section.toCharArray();
        for (MatchResult quote : quotes) {
            int belongs = quote.group(1).equals("terms") ? 0 : Integer.parseInt(quote.group(2));
            String words = TEXT.matcher(quote.group(3)).results().map(r -> r.group(1)).collect(Collectors.joining());
            int at = belongs == number ? section.indexOf(words) : -1;
            while (at >= 0) {
                Arrays.fill(left, at, at + words.length(), '\n');
                at = section.indexOf(words, at + 1);
            }
        }
        return Arrays.stream(new String(left).split("\n+")).filter(w -> w.matches(".*\\w.*"))
            .collect(Collectors.toList());
    }
}
