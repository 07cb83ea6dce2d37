import java.io.IOException;
import java.lang.reflect.InvocationTargetException;
import java.lang.reflect.Method;
import java.nio.charset.StandardCharsets;
import java.nio.file.Files;
import java.nio.file.Path;
import java.util.Arrays;
import java.util.Comparator;
import java.util.function.IntPredicate;
import java.util.function.IntToLongFunction;

/**
 * Runs the tests of the document's edges. Each is a method promiseNNxyz that quotes the sentence
 * that it holds the class to; the quote must stand under Promise NN or among the terms.
 */
abstract class Boundary {
    static final Path DOC = Path.of("../shared/DOC.md");

    private static String doc = "";
    private static String quote = "";
    private static int promise = 0;

    static void run(Class<?> tests) throws IOException, ReflectiveOperationException {
        doc = plain(Files.readString(DOC, StandardCharsets.UTF_8));
        Method[] methods = tests.getDeclaredMethods();
        Arrays.sort(methods, Comparator.comparing(Method::getName));
        int ran = 0;
        for (Method test : methods) {
            if (test.getName().startsWith("promise")) {
                runOne(test);
                ran++;
            }
        }
        Checks.close(tests.getName() + " (" + ran + " tests)");
    }

    private static void runOne(Method test) throws ReflectiveOperationException {
        promise = Integer.parseInt(test.getName().substring(7, 9));
        quote = "";
        test.setAccessible(true);
        try {
            test.invoke(null);
        } catch (InvocationTargetException thrown) {
            Throwable cause = thrown.getCause();
            StackTraceElement[] trace = cause.getStackTrace();
            Checks.due(test.getName() + " threw " + cause + (trace.length > 0 ? " at " + trace[0] : ""), 1, 0);
        }
        Checks.due(test.getName() + " quotes no sentence", quote.isEmpty(), false);
    }

    static String plain(String text) {
        return text.replaceAll("\\s+", " ");
    }

    /** The document's text from one heading to the next. */
    static String section(String text, String heading) {
        int from = text.indexOf(heading);
        int start = from + heading.length();
        int to = text.indexOf(" ## ", start);
        return from < 0 ? "" : text.substring(start, to < 0 ? text.length() : to);
    }

    /** Names the sentence that the calls that follow go to the edge of. */
    static void sentence(String words) {
        quote = words;
        String own = section(doc, " ## Promise " + promise + ": ");
        boolean stands = own.contains(words) || section(doc, " ## Terms ").contains(words) || section(doc, " ## What it is ").contains(words);
        Checks.due("promise " + promise + " or the terms say: " + words, stands, true);
    }

    private static String where() {
        String line = StackWalker.getInstance().walk(frames -> frames
            .filter(f -> !f.getClassName().equals("Boundary")).map(StackWalker.StackFrame::toString).findFirst().orElse("?"));
        return "[" + quote + "] " + line;
    }

    static void due(long got, long want) {
        Checks.due(got == want ? "" : where(), got, want);
    }

    static void yes(boolean got) {
        due(got ? 1 : 0, 1);
    }

    static void no(boolean got) {
        due(got ? 1 : 0, 0);
    }

    /** The call is refused below least and above most, and nothing is done then; at both it can be. */
    static void edges(IceHouse x, int least, int most, IntPredicate call) {
        long[] stood = shot(x);
        for (int v : beyond(least, most)) {
            no(call.test(v));
        }
        stands(x, stood);
        yes(call.test(least));
        yes(call.test(most));
    }

    /** None is answered below least and above most, and something else at both. */
    static void asks(int least, int most, long none, IntToLongFunction call) {
        for (int v : beyond(least, most)) {
            due(call.applyAsLong(v), none);
        }
        no(call.applyAsLong(least) == none);
        no(call.applyAsLong(most) == none);
    }

    private static int[] beyond(int least, int most) {
        return new int[] {Integer.MIN_VALUE, least - 1, most + 1, Integer.MAX_VALUE};
    }

    /** What some fifty calls tell of the house as it stands. */
    static long[] shot(IceHouse x) {
        long[] all = new long[51];
        int n = 0;
        for (int what = 0; what <= 8; what++) {
            all[n++] = x.look(what);
        }
        for (int cell : new int[] {0, 7, 59}) {
            for (int what = 0; what < 8; what++) {
                all[n++] = x.of(cell, what);
            }
        }
        for (int what = 0; what < 4; what++) {
            all[n++] = x.tells(0, what);
            all[n++] = x.tells(59, what);
        }
        all[n++] = x.fault(0);
        all[n++] = x.fault(1);
        all[n++] = x.run(0);
        all[n++] = x.run((int) all[0] - 1);
        all[n++] = x.gauged(0, 9999);
        all[n++] = x.gauged(359, 9999);
        all[n++] = x.mapped(0, 0, 9999);
        all[n++] = x.mapped(2, 59, 9999);
        all[n++] = x.reading(0, 0, 9999, 0);
        all[n] = x.reading(0, 359, 9999, 1);
        return all;
    }

    /** All that a shot tells is as it was. */
    static void stands(IceHouse x, long[] stood) {
        long[] now = shot(x);
        for (int i = 0; i < stood.length; i++) {
            due(now[i], stood[i]);
        }
    }

    /** Works on to MONTH t. */
    static void workTo(IceHouse x, int t) {
        for (int k = 0; k < 20 && x.look(0) < t; k++) {
            x.work((int) Math.min(24, t - x.look(0)));
        }
        due(x.look(0), t);
    }
}
