import java.io.IOException;
import java.nio.file.Files;
import java.nio.file.Path;
import java.util.TreeSet;
import java.util.regex.Matcher;
import java.util.regex.Pattern;
import java.util.stream.Stream;

/** README.md: its calls answer what stands behind them, and its list of tests is that of the tests there are. */
public final class ReadmeTest {
    private static final Path README = Path.of("README.md");
    private static final Path TESTS = Path.of("src/test/java");
    private static final Pattern BLOCK = Pattern.compile("(?s)\n```java\n(.*?)\n```\n");
    private static final Pattern CALL = Pattern.compile("house\\.(\\w+\\([^)]*\\)); +// (throws )?(\\S+)");
    private static final Pattern ROW = Pattern.compile("\n\\| `(\\w+)` \\| [^\n|]+ \\|(?=\n)");
    private static final Check CHECK = new Check("ReadmeTest");

    private ReadmeTest() {
    }

    public static void main(String[] args) throws IOException {
        String text = Files.readString(README);
        calls(text);
        listOfTests(text);
        CHECK.same("how the tests are run", text.contains("\n```sh\n.ci/run\n```\n"), true);
        CHECK.end();
    }

    /** All blocks are one run of calls on one house. */
    private static void calls(String text) {
        Vivahouse house = null;
        int calls = 0;
        Matcher block = BLOCK.matcher(text);
        while (block.find()) {
            for (String line : block.group(1).split("\n")) {
                if (line.equals("Vivahouse house = new Vivahouse();")) {
                    CHECK.same("the house is made once, at first", house == null && calls == 0, true);
                    house = new Vivahouse();
                } else {
                    call(house, line);
                    calls++;
                }
            }
        }
        CHECK.same("calls are shown, and fewer than an object is used for", calls > 40 && calls < 512, true);
    }

    private static void call(Vivahouse house, String line) {
        Matcher m = CALL.matcher(line);
        boolean isCall = m.matches() && house != null;
        CHECK.same("a call with its answer: " + line, isCall, true);
        if (isCall) {
            String relation = m.group(2) == null ? " = " : " throws ";
            Script.run(CHECK, "README", house, m.group(1) + relation + m.group(3));
        }
    }

    private static void listOfTests(String text) throws IOException {
        TreeSet<String> listed = new TreeSet<>();
        Matcher row = ROW.matcher(text);
        while (row.find()) {
            listed.add(row.group(1));
        }
        TreeSet<String> there = new TreeSet<>();
        try (Stream<Path> files = Files.list(TESTS)) {
            files.map(file -> file.getFileName().toString()).filter(name -> name.endsWith("Test.java"))
                    .forEach(name -> there.add(name.replace(".java", "")));
        }
        CHECK.same("the tests listed", listed.toString(), there.toString());
        for (String shared : new String[] {"Check", "Inside", "Houses", "Script"}) {
            CHECK.same(shared + " is told of", text.contains("`" + shared + "`"), true);
        }
    }
}
