import java.io.IOException;
import java.nio.file.DirectoryStream;
import java.nio.file.Files;
import java.nio.file.Path;
import java.util.ArrayList;
import java.util.Arrays;
import java.util.List;
import java.util.regex.Matcher;
import java.util.regex.Pattern;

/** That each sentence of the document, from its terms to its last promise, is quoted by a test of its own. */
public final class DocumentTest {
    private static final Check CHECK = new Check("DocumentTest");
    private static final Pattern QUOTE = Pattern.compile("\\.sentence\\(((?:[\\s+]*\"(?:[^\"\\\\]|\\\\.)*\")+)\\)");
    private static final Pattern LITERAL = Pattern.compile("\"((?:[^\"\\\\]|\\\\.)*)\"");

    public static void main(String[] args) throws IOException {
        if (Document.isThere()) {
            everySentenceIsQuoted();
        }
        CHECK.end();
    }

    private static void everySentenceIsQuoted() throws IOException {
        // Headings, the marks of the text's layout and the list of the methods are no sentences.
        String text = Document.text()
            .replaceAll("## Promise \\d+: (A new object|\\w+)", "")
            .replaceAll("## The public face.*?## Terms", "")
            .replaceAll("```(text|java)?|==== II?\\.", "");
        int begins = text.indexOf("An object is used");
        int ends = text.indexOf("## Not promised");
        CHECK.holds("the document has its parts", begins >= 0 && ends > begins);
        if (begins >= 0 && ends > begins) {
            String sentences = text.substring(begins, ends).replaceAll("\\s+", " ");
            for (String left : notQuoted(sentences, quotes())) {
                CHECK.holds("a test quotes \"" + left + "\"", false);
            }
        }
    }

    private static List<String> quotes() throws IOException {
        List<String> quotes = new ArrayList<>();
        try (DirectoryStream<Path> tests = Files.newDirectoryStream(Document.root().resolve("src/test/java"), "*Test.java")) {
            for (Path test : tests) {
                Matcher call = QUOTE.matcher(Files.readString(test));
                while (call.find()) {
                    StringBuilder quote = new StringBuilder();
                    Matcher literal = LITERAL.matcher(call.group(1));
                    while (literal.find()) {
                        quote.append(literal.group(1).replaceAll("\\\\(.)", "$1"));
                    }
                    quotes.add(quote.toString());
                }
            }
        }
        return quotes;
    }

    private static List<String> notQuoted(String sentences, List<String> quotes) {
        boolean[] quoted = new boolean[sentences.length()];
        for (String quote : quotes) {
            for (int at = sentences.indexOf(quote); at >= 0; at = sentences.indexOf(quote, at + 1)) {
                Arrays.fill(quoted, at, at + quote.length(), true);
            }
        }
        List<String> left = new ArrayList<>();
        for (int start = 0; start < quoted.length; start++) {
            int end = start;
            while (end < quoted.length && !quoted[end]) {
                end++;
            }
            String rest = sentences.substring(start, end);
            if (rest.matches(".*\\w.*")) {
                left.add(rest.trim());
            }
            start = end;
        }
        return left;
    }
}
