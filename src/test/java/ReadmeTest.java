import java.io.IOException;
import java.nio.file.DirectoryStream;
import java.nio.file.Files;
import java.nio.file.Path;
import java.util.ArrayList;
import java.util.List;
import java.util.Set;
import java.util.TreeSet;
import java.util.regex.Matcher;
import java.util.regex.Pattern;

/** That what README.md shows is so: its example, its statements, its calls and its tests. */
public final class ReadmeTest {
    private static final Check CHECK = new Check("ReadmeTest");
    private static final Pattern TOLD = Pattern.compile("for \\(char c : \"([^\"]*)\"\\.toCharArray\\(\\)\\)");
    private static final Pattern ASKED = Pattern.compile("(?m)^law\\.(\\w+)\\(([^)]*)\\); +// (-?\\d+)\\b");
    private static final Pattern STATEMENT = Pattern.compile("(?m)^\\| `(\\w)` .*\\| `([^`]*;)` \\|$");
    private static final Pattern CALL = Pattern.compile("(?m)^\\| `(\\w+\\([^`]*\\))` \\|");
    private static final Pattern PROMISED = Pattern.compile("public (?:int|long) (\\w+)\\(([^)]*)\\);");
    private static final Pattern TEST = Pattern.compile("(?m)^\\| `(\\w+Test)` \\|");

    private final String page;

    private ReadmeTest(String page) {
        this.page = page;
    }

    public static void main(String[] args) throws IOException {
        ReadmeTest test = new ReadmeTest(Files.readString(Document.root().resolve("README.md")));
        test.theExample();
        test.theStatements();
        test.theCalls();
        test.theTests();
        CHECK.end();
    }

    private void theExample() {
        LawFromTheTree law = new LawFromTheTree();
        Matcher told = TOLD.matcher(page);
        CHECK.holds("the example tells a land", told.find());
        for (char c : told.group(1).toCharArray()) {
            law.letter(c);
        }
        int asked = 0;
        Matcher line = ASKED.matcher(page);
        while (line.find()) {
            asked++;
            long answer = Face.call(law, Face.indexOf(line.group(1)), numbers(line.group(2)));
            CHECK.due("of the example, " + line.group(), answer, Long.parseLong(line.group(3)));
        }
        int lines = page.split("(?m)^law\\.", -1).length - 1;
        CHECK.due("every line of the example tells its answer", asked, lines);
        CHECK.holds("there are some", asked > 0);
    }

    private static int[] numbers(String arguments) {
        if (arguments.isEmpty()) {
            return new int[0];
        }
        String[] told = arguments.split(", ");
        int[] numbers = new int[told.length];
        for (int i = 0; i < told.length; i++) {
            numbers[i] = Integer.parseInt(told[i]);
        }
        return numbers;
    }

    private void theStatements() {
        StringBuilder letters = new StringBuilder();
        Matcher row = STATEMENT.matcher(page);
        while (row.find()) {
            letters.append(row.group(1));
            CHECK.due("of the statements, " + row.group(2), Check.tell(Check.told("tt000;"), row.group(2)), 1);
            CHECK.holds(row.group(2) + " begins with its letter", row.group(2).startsWith(row.group(1)));
        }
        CHECK.holds("all statements, but not " + letters, letters.toString().equals("ctvexdh"));
    }

    private void theCalls() {
        if (!Document.isThere()) {
            return;
        }
        List<String> promised = new ArrayList<>();
        Matcher method = PROMISED.matcher(Document.text());
        while (method.find()) {
            promised.add(method.group(1) + "(" + method.group(2).replace("int ", "") + ")");
        }
        List<String> shown = new ArrayList<>();
        Matcher call = CALL.matcher(page);
        while (call.find()) {
            shown.add(call.group(1));
        }
        CHECK.due("calls of the document's face", promised.size(), Face.NAMES.length);
        CHECK.holds("the calls as the document's face has them, but not " + shown, shown.equals(promised));
    }

    private void theTests() throws IOException {
        Set<String> there = new TreeSet<>();
        try (DirectoryStream<Path> tests = Files.newDirectoryStream(Document.root().resolve("src/test/java"), "*Test.java")) {
            for (Path test : tests) {
                there.add(test.getFileName().toString().replace(".java", ""));
            }
        }
        Set<String> shown = new TreeSet<>();
        Matcher row = TEST.matcher(page);
        while (row.find()) {
            shown.add(row.group(1));
        }
        CHECK.holds("the tests that there are, " + there + ", but not " + shown, shown.equals(there));
    }
}
