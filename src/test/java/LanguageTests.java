import java.io.IOException;
import java.nio.charset.StandardCharsets;
import java.nio.file.Files;
import java.nio.file.Path;
import java.util.ArrayList;
import java.util.List;
import java.util.TreeSet;
import java.util.regex.Matcher;
import java.util.regex.Pattern;

/** The rules of ../shared/LANGUAGE.md that a look at the text can tell. */
final class LanguageTests {
    private static final String FACE = "set weather rates feed end law fault of tells work run look pole read pit gauge map"
        + " reading gauged mapped gain value sum next offset parted unlike foretell spread";

    public static void main(String[] args) throws IOException {
        String text = Files.readString(Path.of(args[0]), StandardCharsets.ISO_8859_1);
        String code = text.replaceAll("(?s)/\\*.*?\\*/", " ").replaceAll("//[^\n]*", " ");
        for (char c : text.toCharArray()) {
            if (c != '\n' && (c < 32 || c > 126)) {
                Checks.due("sign " + (int) c + " in the source", 1, 0);
            }
        }
        for (String word : "throw try catch synchronized assert import package protected equals hashCode toString".split(" ")) {
            Checks.due("'" + word + "' in the source", count(code, "\\b" + word + "\\b"), 0);
        }
        Checks.due("-> in the source", count(code, "->"), 0);
        Checks.due(":: in the source", count(code, "::"), 0);
        Checks.due("Exact in the source", count(code, "Exact"), 0);
        Checks.due("classes", Math.max(12, count(code, "\\bclass\\b")), 12);
        Checks.due("static fields that are not final", count(code, "(?m)^ *(private |public )?static (?!final )[a-zA-Z\\[\\]]+ [a-zA-Z]+ *(=|;)"), 0);
        checkFace(code);
        checkMethods(code);
        checkRoom(code);
        Checks.close("LanguageTests");
    }

    private static void checkFace(String code) {
        TreeSet<String> due = new TreeSet<>(List.of(FACE.split(" ")));
        List<String> names = new ArrayList<>();
        Matcher m = Pattern.compile("(?m)^    public [a-z]+ ([a-z]+)\\(").matcher(code);
        while (m.find()) {
            names.add(m.group(1));
        }
        Checks.due("public methods as named", new TreeSet<>(names).equals(due), true);
        Checks.due("public methods", names.size(), 29);
        Checks.due("public members", count(code, "\\bpublic\\b"), 29 + 3);
        Matcher p = Pattern.compile("private (static )?[a-zA-Z\\[\\]]+ ([a-zA-Z]+)\\(").matcher(code);
        while (p.find()) {
            Checks.due("private method " + p.group(2) + " bears a public name", due.contains(p.group(2)), false);
        }
    }

    private static void checkMethods(String code) {
        int start = 0;
        int line = 0;
        for (String row : code.split("\n", -1)) {
            line++;
            if (row.matches("^ {4,8}(public|private) .*\\(.*\\) \\{$")) {
                start = line;
                Checks.due("parameters in line " + line, Math.max(7, row.split(",").length), 7);
            }
            if (row.matches("^ {4,8}\\}$") && start > 0) {
                Checks.due("lines of the method at " + start, Math.max(60, line - start), 60);
                start = 0;
            }
        }
    }

    /** All that a house ever makes it makes with its constructor: no call may fill the one room of a run. */
    private static void checkRoom(String code) {
        boolean constructor = false;
        for (String row : code.split("\n", -1)) {
            constructor = row.equals("    public IceHouse() {") || constructor && !row.equals("    }");
            if (row.matches(".*\\bnew\\b.*")) {
                boolean field = row.matches("^        private final [A-Za-z]+(\\[\\])? [a-zA-Z]+ = new .*;$");
                Checks.due("made by a call: " + row.strip(), field || constructor, true);
            }
        }
        Checks.due("copies made by a call", count(code, "\\bclone\\(|copyOf|substring|StringBuilder|toCharArray|ArrayList"), 0);
    }

    private static int count(String code, String pattern) {
        Matcher m = Pattern.compile(pattern).matcher(code);
        int found = 0;
        while (m.find()) {
            found++;
        }
        return found;
    }
}
