import java.io.IOException;
import java.nio.charset.StandardCharsets;
import java.nio.file.Files;
import java.nio.file.Path;
import java.util.ArrayList;
import java.util.Arrays;
import java.util.List;
import java.util.TreeMap;
import java.util.regex.Matcher;
import java.util.regex.Pattern;
import java.util.stream.Stream;

/** Each sentence of the terms and of each promise is quoted by a test of its edge. */
final class SentenceTests {
    private static final Path TESTS = Path.of("src/test/java");
    private static final Pattern STRINGS = Pattern.compile("String ([A-Z_0-9]+) = ((?:\"[^\"]*\"\\s*\\+?\\s*)+);");
    private static final Pattern TEST = Pattern.compile("void promise(\\d\\d)(\\w+)\\(\\) \\{");
    private static final Pattern QUOTE = Pattern.compile("sentence\\(([A-Z_0-9]+|(?:\"[^\"]*\"\\s*\\+?\\s*)+)\\);");

    private SentenceTests() {
    }

    public static void main(String[] args) throws IOException {
        String doc = Boundary.plain(Files.readString(Boundary.DOC, StandardCharsets.UTF_8));
        TreeMap<Integer, List<String>> quotes = new TreeMap<>();
        List<Path> files;
        try (Stream<Path> all = Files.list(TESTS)) {
            files = all.filter(p -> p.toString().endsWith("BoundaryTests.java")).sorted().toList();
        }
        for (Path file : files) {
            gather(Files.readString(file, StandardCharsets.UTF_8), quotes);
        }
        List<String> every = new ArrayList<>();
        for (int promise = 1; promise <= 30; promise++) {
            List<String> own = quotes.getOrDefault(promise, List.of());
            every.addAll(own);
            String text = Boundary.section(doc, " ## Promise " + promise + ": ");
            int says = text.indexOf("`: ");
            covered("promise " + promise, text, says < 0 ? 0 : says + 3, own);
        }
        covered("the terms", Boundary.section(doc, " ## Terms "), 0, every);
        Checks.close("SentenceTests");
    }

    private static void gather(String source, TreeMap<Integer, List<String>> quotes) {
        TreeMap<String, String> named = new TreeMap<>();
        Matcher strings = STRINGS.matcher(source);
        while (strings.find()) {
            named.put(strings.group(1), joined(strings.group(2)));
        }
        Matcher test = TEST.matcher(source);
        Matcher quote = QUOTE.matcher(source);
        int at = 0;
        int promise = 0;
        while (quote.find()) {
            while (test.find(at) && test.start() < quote.start()) {
                promise = Integer.parseInt(test.group(1));
                at = test.end();
            }
            String words = quote.group(1);
            quotes.computeIfAbsent(promise, p -> new ArrayList<>()).add(words.startsWith("\"") ? joined(words) : named.getOrDefault(words, ""));
        }
    }

    private static String joined(String literals) {
        StringBuilder text = new StringBuilder();
        Matcher m = Pattern.compile("\"([^\"]*)\"").matcher(literals);
        while (m.find()) {
            text.append(m.group(1));
        }
        return text.toString();
    }

    /** From the place on, no sentence of the text stands outside of all quotes. */
    private static void covered(String name, String text, int from, List<String> quotes) {
        boolean[] quoted = new boolean[text.length()];
        for (String quote : quotes) {
            for (int at = text.indexOf(quote); at >= 0 && !quote.isEmpty(); at = text.indexOf(quote, at + 1)) {
                Arrays.fill(quoted, at, at + quote.length(), true);
            }
        }
        int start = from;
        for (String sentence : text.substring(from).split("(?<=[.;])(?= )")) {
            boolean found = !sentence.matches(".*[A-Za-z].*");
            for (int i = start; i < start + sentence.length(); i++) {
                found = found || quoted[i] && text.charAt(i) != ' ';
            }
            Checks.due(name + ": no test of the edge of \"" + sentence.strip() + "\"", found, true);
            start += sentence.length();
        }
        Checks.due(name + " has text", start > from, true);
    }
}
