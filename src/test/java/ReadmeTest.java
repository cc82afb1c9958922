import java.io.IOException;
import java.lang.reflect.InvocationTargetException;
import java.lang.reflect.Method;
import java.nio.file.Files;
import java.nio.file.Path;
import java.util.ArrayList;
import java.util.HashMap;
import java.util.List;
import java.util.Map;
import java.util.regex.Matcher;
import java.util.regex.Pattern;
import java.util.stream.Stream;

/** README.md says what is so: its run of calls, its tables of the calls, the tests and files that it names. */
public final class ReadmeTest {
    private static final Check check = new Check();
    private static final Pattern CALL = Pattern.compile("river\\.(\\w+)\\(([^)]*)\\); +// (-?\\d+): .+");
    private static final Pattern ROW = Pattern.compile("\\| `(\\w+)\\(([^)]*)\\)` \\| ([^|]+) \\| ([^|]+) \\|");
    private static final Pattern IN_DOCUMENT = Pattern.compile("## Promise \\d+: \\w+ `int (\\w+)\\(([^)]*)\\)`: (.*?)(?= ## )");

    public static void main(String[] args) throws IOException, IllegalAccessException {
        String page = Files.readString(Path.of("README.md"));
        run(page);
        calls(page);
        refusals(page);
        tests(page);
        check.end();
    }

    private static void run(String page) throws IllegalAccessException {
        Map<String, Method> methods = new HashMap<>();
        for (Method m : WaterMen.class.getMethods()) methods.put(m.getName(), m);
        WaterMen river = new WaterMen();
        int told = 0;
        for (String line : between(page, "```java\n", "```").split("\n")) {
            if (line.equals("WaterMen river = new WaterMen();")) continue;
            Matcher m = CALL.matcher(line);
            check.holds("a call with its answer: " + line, m.matches());
            if (!m.matches()) continue;
            told++;
            Object[] numbers = Stream.of(m.group(2).split(", *")).map(Integer::decode).toArray();
            check.is("README: " + line, answer(methods.get(m.group(1)), river, numbers), Integer.parseInt(m.group(3)));
        }
        check.holds("README tells a run of calls", told >= 10);
    }

    private static int answer(Method method, WaterMen river, Object[] numbers) throws IllegalAccessException {
        try {
            return (Integer) method.invoke(river, numbers);
        } catch (InvocationTargetException e) {
            throw new IllegalStateException(method + " has thrown " + e.getCause());
        }
    }

    /** Every call of the document's face has a row, with the same names, in the same order. */
    private static void calls(String page) {
        List<String> due = new ArrayList<>();
        List<String> told = new ArrayList<>();
        Matcher face = IN_DOCUMENT.matcher(Quotes.document());
        while (face.find()) due.add(face.group(1) + "(" + face.group(2).replace("int ", "") + ")");
        Matcher row = ROW.matcher(page);
        while (row.find()) told.add(row.group(1) + "(" + row.group(2) + ")");
        check.is("README's calls", told.size(), 33);
        if (!due.isEmpty()) check.holds("README's calls are the document's: " + told, told.equals(due));
    }

    /** A row names BAD, NOT, FULL or another number for BAD if and only if the document does. */
    private static void refusals(String page) {
        Map<String, String> promises = new HashMap<>();
        Matcher m = IN_DOCUMENT.matcher(Quotes.document());
        while (m.find()) promises.put(m.group(1), m.group(3));
        if (promises.isEmpty()) return;
        Matcher row = ROW.matcher(page);
        while (row.find()) {
            String refused = row.group(4);
            String promise = promises.getOrDefault(row.group(1), "");
            for (String answer : new String[] {"BAD", "NOT", "FULL", "WHY: -10"}) {
                String inDocument = answer.equals("WHY: -10") ? "BAD, WHY" : answer;
                check.holds(row.group(1) + " and " + answer, refused.contains(answer) == promise.contains(inDocument));
            }
            check.holds(row.group(1) + " and -2 for BAD", refused.equals("BAD is -2") == promise.contains("-2 is BAD here"));
            check.holds(row.group(1) + " and -1000 for BAD", refused.equals("BAD is -1000") == promise.contains("-1000: BAD"));
        }
    }

    private static void tests(String page) throws IOException {
        try (Stream<Path> files = Files.list(Path.of("src/test/java"))) {
            for (Path file : files.toList()) {
                String name = file.getFileName().toString().replace(".java", "");
                boolean helper = !name.endsWith("Test");
                check.holds("README names " + name, helper || page.contains("`" + name + "`"));
            }
        }
        Matcher named = Pattern.compile("(?:src|\\.ci|\\.\\./shared)/[\\w./]+").matcher(page);
        while (named.find()) {
            // A name with a star is cut at its last folder, which must be there too.
            check.holds("README names what is there: " + named.group(), Files.exists(Path.of(named.group())));
        }
    }

    private static String between(String text, String from, String to) {
        int at = text.indexOf(from);
        int end = at < 0 ? -1 : text.indexOf(to, at + from.length());
        return end < 0 ? "" : text.substring(at + from.length(), end);
    }
}
