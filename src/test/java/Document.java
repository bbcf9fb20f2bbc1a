import java.io.IOException;
import java.io.UncheckedIOException;
import java.nio.file.Files;
import java.nio.file.Path;

/** The text of ../shared/DOC.md, with every run of white space as one space. */
final class Document {
    private static final String TEXT = read();

    private Document() {
    }

    /** Without the document nothing can be compared, and the class can be tested all the same. */
    static boolean isThere() {
        return !TEXT.isEmpty();
    }

    static boolean has(String quote) {
        return TEXT.contains(quote);
    }

    static String text() {
        return TEXT;
    }

    static Path root() {
        return Path.of(System.getProperty("project.root", "."));
    }

    private static String read() {
        Path path = root().resolve("../shared/DOC.md");
        if (!Files.isReadable(path)) {
            System.out.println("no document at " + path + ": quotes of it are not compared");
            return "";
        }
        try {
            return Files.readString(path).replaceAll("\\s+", " ");
        } catch (IOException e) {
            throw new UncheckedIOException(e);
        }
    }
}
