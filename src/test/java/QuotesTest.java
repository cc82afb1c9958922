import java.io.IOException;
import java.nio.file.Files;
import java.nio.file.Path;
import java.util.ArrayList;
import java.util.List;
import java.util.regex.Matcher;
import java.util.regex.Pattern;
import java.util.stream.Stream;

/** Every sentence of the document's terms and promises is quoted by a test of its edges. */
public final class QuotesTest {
    private static final Check check = new Check();
    private static final Pattern LITERAL = Pattern.compile("\"((?:[^\"\\\\]|\\\\.)*)\"");

    public static void main(String[] args) throws IOException {
        String document = Quotes.document();
        if (document.isEmpty()) return;
        boolean[] quoted = new boolean[document.length()];
        for (String q : quotes()) {
            for (int at = document.indexOf(q); at >= 0; at = document.indexOf(q, at + 1)) {
                for (int i = at; i < at + q.length(); i++) quoted[i] = true;
            }
        }
        int from = document.indexOf("## Terms");
        int to = document.indexOf("## Not promised");
        check.holds("the document has its parts", from >= 0 && to > from);
        StringBuilder left = new StringBuilder();
        for (int i = from; i < to; i++) left.append(quoted[i] ? '#' : document.charAt(i));
        for (String piece : withoutHeads(left.toString()).split("#+")) {
            check.holds("no test quotes '" + piece.strip() + "'", !piece.matches(".*[A-Za-z].*") || piece.equals(" and "));
        }
        check.end();
    }

    /** What is no sentence: headings, signatures, fences, where the interface's parts begin, the end of the first sentence. */
    private static String withoutHeads(String text) {
        return text.replaceAll("## Promise \\d+: [A-Za-z ]+ `[^`]*`:", "#").replaceAll("```(text)?", "#").replaceAll("======== \\d", "#")
            .replaceAll("Ahead of the calls [^-]*---- [a-z, ]+\\.", "#").replace("## Terms 499).", "#").replace("LINES (n, a, b: numbers):", "#");
    }

    private static List<String> quotes() throws IOException {
        List<String> all = new ArrayList<>();
        try (Stream<Path> files = Files.list(Path.of("src/test/java"))) {
            for (Path file : files.filter(f -> f.toString().endsWith("EdgesTest.java")).toList()) {
                Matcher m = LITERAL.matcher(Files.readString(file));
                while (m.find()) if (m.group(1).length() >= 10) all.add(m.group(1));
            }
        }
        return all;
    }
}
