import java.io.IOException;
import java.nio.file.Files;
import java.nio.file.Path;
import java.util.ArrayList;
import java.util.List;
import java.util.regex.Matcher;
import java.util.regex.Pattern;
import java.util.stream.Stream;

/** Whether the edge tests name all of the document: what no test begins with is told, and must be no sentence. */
public final class SentencesTest {
    private static final Path DOCUMENT = Path.of("../shared/DOC.md"), TESTS = Path.of("src/test/java");
    private static final Pattern QUOTE = Pattern.compile("check\\.sentence\\(\"([^\"]*)\"\\)");
    /** Headings, the face, names ahead of what is told of them, and words between two sentences. */
    private static final String[] NO_SENTENCE = {"## Promise \\d+: [A-Za-z ]+", "## Terms", "```(text)?", "`[^`]*`: ?",
        "======== \\d", "Of one of BRIDES: ?", "[A-Z]+( of one of BRIDES| of a HOUSE| by a SEED| of m)?: ?", "of HOUSES house\\(\\) 0, 1",
        "of BRIDES bride\\(\\) 0 to 3", "and a letter a to t", "\\b(and|else)\\b", "[\\s.,:;()]+"};
    private static final Check check = new Check();

    public static void main(String[] args) throws IOException {
        if (!Files.exists(DOCUMENT)) {
            System.out.println(DOCUMENT + " is not here: nothing to compare");
            return;
        }
        String document = Files.readString(DOCUMENT).replaceAll("\\s+", " ");
        boolean[] named = new boolean[document.length()];
        for (String quote : quotes()) {
            for (int i = document.indexOf(quote); i >= 0; i = document.indexOf(quote, i + 1)) {
                for (int k = i; k < i + quote.length(); k++) named[k] = true;
            }
        }
        tellNotNamed(document, named, document.indexOf("======== 1"), document.indexOf("; what later calls"));
        tellNotNamed(document, named, document.indexOf("## Terms"), document.indexOf("Ahead of the calls"));
        tellNotNamed(document, named, document.indexOf("## Promise 1:"), document.indexOf("## Not promised"));
        check.finish();
    }

    private static List<String> quotes() throws IOException {
        List<String> all = new ArrayList<>();
        try (Stream<Path> files = Files.list(TESTS)) {
            for (Path file : files.toList()) {
                Matcher matcher = QUOTE.matcher(Files.readString(file));
                while (matcher.find()) all.add(matcher.group(1));
            }
        }
        return all;
    }

    private static void tellNotNamed(String document, boolean[] named, int from, int to) {
        check.holds("a passage of the document", from >= 0 && from < to);
        int start = from;
        while (start < to) {
            int end = start;
            while (end < to && named[end] == named[start]) end++;
            if (!named[start]) {
                String rest = document.substring(start, end);
                for (String pattern : NO_SENTENCE) rest = rest.replaceAll(pattern, " ");
                check.holds("a test for all of '" + document.substring(start, end).trim() + "'", rest.isBlank());
            }
            start = end;
        }
    }
}
