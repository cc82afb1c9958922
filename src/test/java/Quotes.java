import java.io.IOException;
import java.nio.file.Files;
import java.nio.file.Path;

/** The document's own words, so that no test speaks for a sentence that does not stand there. */
final class Quotes {
    private static final Path DOCUMENT = Path.of("../shared/DOC.md");
    private static final String TEXT = read();

    private Quotes() {
    }

    private static String read() {
        try {
            return plain(Files.readString(DOCUMENT));
        } catch (IOException e) {
            System.out.println(DOCUMENT + " can't be read: quotes are not looked up");
            return "";
        }
    }

    static String plain(String text) {
        return text.replaceAll("\\s+", " ");
    }

    static String document() {
        return TEXT;
    }

    static void mustStand(Check check, String sentence) {
        if (!TEXT.isEmpty()) check.holds("the document says '" + sentence + "'", TEXT.contains(plain(sentence)));
    }
}
