import java.io.IOException;
import java.nio.file.Files;
import java.nio.file.Path;
import java.util.ArrayList;
import java.util.List;
import java.util.regex.Matcher;
import java.util.regex.Pattern;

/** The document's examples, each on a new object, as they are written there. */
public final class ExamplesTest {
    private static final Path DOCUMENT = Path.of("../shared/DOC.md");
    private static final Pattern EXAMPLE =
            Pattern.compile("(?s)\n([A-Z][^\n:]*): ([^\n]*)\n\n```text\n(.*?)\\.\n```\n");
    private static final Check CHECK = new Check("ExamplesTest");

    private ExamplesTest() {
    }

    public static void main(String[] args) throws IOException {
        Matcher m = EXAMPLE.matcher(examples(Files.readString(DOCUMENT)));
        List<String> titles = new ArrayList<>();
        List<Integer> calls = new ArrayList<>();
        while (m.find()) {
            String script = m.group(2) + " " + m.group(3).strip().replaceAll("\\s+", " ");
            Script.run(CHECK, m.group(1), new Vivahouse(), script);
            titles.add(m.group(1));
            calls.add(script.split("; ").length);
        }
        CHECK.same("the examples", titles.toString(), "[A candidature from the grant to the award,"
                + " Ties, a pause, a viva that is adjudged and an appeal,"
                + " Two regulations, kin, a move and what the money reaches]");
        CHECK.same("their calls", calls.toString(), "[37, 41, 27]");
        CHECK.end();
    }

    private static String examples(String document) {
        int begin = document.indexOf("\nExamples. Each one begins with a new object.\n");
        int end = document.indexOf("\n## Promise 1: ");
        CHECK.same("the document has examples", begin >= 0 && end > begin, true);
        return document.substring(Math.max(begin, 0), Math.max(begin, end) + 1);
    }
}
