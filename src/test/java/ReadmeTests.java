import java.io.ByteArrayOutputStream;
import java.io.IOException;
import java.io.PrintStream;
import java.lang.reflect.Method;
import java.lang.reflect.Modifier;
import java.nio.charset.StandardCharsets;
import java.nio.file.Files;
import java.nio.file.Path;
import java.util.ArrayList;
import java.util.Arrays;
import java.util.List;
import java.util.regex.Matcher;
import java.util.regex.Pattern;

/** What README.md tells of the class is so: its Demo, its calls and what they answer where they can't be. */
final class ReadmeTests {
    private static final Path DEMO = Path.of("src/test/java/Demo.java");
    private static final Pattern ROW = Pattern.compile("(?m)^\\| `((?:int|long|boolean) ([a-z]+)\\(.*\\))` \\| .+ \\| `(.+)` \\|$");
    private static final Pattern FACE = Pattern.compile("(?m)^    public ((?:int|long|boolean) [a-z]+\\(.*\\));$");

    private ReadmeTests() {
    }

    public static void main(String[] args) throws IOException, ReflectiveOperationException {
        String readme = Files.readString(Path.of("README.md"), StandardCharsets.UTF_8);
        demo(readme);
        calls(readme);
        law(readme);
        Checks.close("ReadmeTests");
    }

    private static void demo(String readme) throws IOException {
        String source = Files.readString(DEMO, StandardCharsets.UTF_8);
        Checks.due("README shows " + DEMO, readme.contains("```java\n" + source + "```\n"), true);
        PrintStream out = System.out;
        ByteArrayOutputStream printed = new ByteArrayOutputStream();
        System.setOut(new PrintStream(printed, true, StandardCharsets.UTF_8));
        Demo.main(new String[0]);
        System.setOut(out);
        String text = printed.toString(StandardCharsets.UTF_8).replace("\r\n", "\n");
        Checks.due("README shows what the Demo prints", readme.contains("```text\n" + text + "```\n"), true);
    }

    private static void calls(String readme) throws IOException, ReflectiveOperationException {
        List<String> face = new ArrayList<>();
        Matcher due = FACE.matcher(Files.readString(Boundary.DOC, StandardCharsets.UTF_8));
        while (due.find()) {
            face.add(due.group(1));
        }
        Checks.due("calls of the face", face.size(), 29);
        Matcher row = ROW.matcher(readme);
        while (row.find()) {
            Checks.due("README's call " + row.group(1) + " is one of the face, told once", face.remove(row.group(1)), true);
            Checks.due(row.group(2) + " where it can't be", answer(row.group(2)), number(row.group(3)));
        }
        Checks.due("calls that README leaves out: " + face, face.size(), 0);
    }

    /** What a call answers that can't be: the TAPE is full, and no line of a law; all numbers are far below 0. */
    private static long answer(String name) throws ReflectiveOperationException {
        IceHouse x = new IceHouse();
        for (int k = 0; k < 40; k++) {
            x.feed(0, 0, 0, 0, 0);
        }
        for (Method method : IceHouse.class.getDeclaredMethods()) {
            if (Modifier.isPublic(method.getModifiers()) && method.getName().equals(name)) {
                Object[] wrong = new Object[method.getParameterCount()];
                Arrays.fill(wrong, Integer.MIN_VALUE);
                Object got = method.invoke(x, wrong);
                return got instanceof Number n ? n.longValue() : got.equals(true) ? 1 : 0;
            }
        }
        return Long.MIN_VALUE;
    }

    private static void law(String readme) {
        int from = readme.indexOf("```text\nfall ");
        Checks.due("README shows a law", from >= 0, true);
        String text = readme.substring(from + 8, readme.indexOf("```", from + 8));
        Checks.due("lines of README's law", Checks.law(new IceHouse(), text), text.split("\n").length);
    }

    private static long number(String told) {
        long sum = 0;
        for (String part : told.split(" - ")) {
            sum -= part.equals("NONE") ? 1 : part.equals("false") ? 0 : Long.parseLong(part);
        }
        return sum;
    }
}
