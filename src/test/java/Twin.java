import java.util.ArrayList;
import java.util.Collections;
import java.util.HashMap;
import java.util.List;
import java.util.Map;
import java.util.TreeMap;

/** A second writing of the document, with other means: slow, plain and unbounded. */
final class Twin {
    static final class Bad extends RuntimeException {
        private static final long serialVersionUID = 1L;

        Bad() {
            super(null, null, false, false);
        }
    }

    record Cell(int ground, int shade, int debris, int ice, int loose, int fresh, int old, int firn) {
        int surface() {
            return ground + ice;
        }

        int snow() {
            return fresh + old + firn;
        }

        long water() {
            return 100L * ice + loose + snow();
        }
    }

    record Sky(int warm, int fall, int dust) {
    }

    record Token(String text, int place) {
    }

    record Line(String sort, List<String> amount, List<String> when) {
    }

    record Telling(String key, int a, int b, int day) {
    }

    record State(Cell[] cells, long ran, long fell) {
    }

    private Cell[] cells = new Cell[60];
    private final Map<Integer, Sky> skies = new HashMap<>();
    private int lapse = 6;
    private int flow = 10;
    private String tape = "";
    private List<Line> law = List.of();
    private int fault = 0;
    private int faultPlace = -1;
    private final List<Integer> runs = new ArrayList<>();
    private long fell = 0;
    private long given = 0;
    private final List<Integer> poles = new ArrayList<>();
    private final List<Telling> tellings = new ArrayList<>();

    Twin() {
        for (int c = 0; c < 60; c++) {
            cells[c] = new Cell(0, 0, 0, 0, 0, 0, 0, 0);
        }
    }

    private static void need(boolean can) {
        if (!can) {
            throw new Bad();
        }
    }

    private static void range(long v, long least, long most) {
        need(v >= least && v <= most);
    }

    long set(int c, int what, int v) {
        range(c, 0, 59);
        range(what, 0, 3);
        range(v, 0, List.of(900, 9, 50, 300).get(what));
        Cell o = cells[c];
        given -= o.water();
        cells[c] = new Cell(what == 0 ? v : o.ground, what == 1 ? v : o.shade, what == 2 ? v : o.debris,
            what == 3 ? v : o.ice, o.loose, o.fresh, o.old, o.firn);
        given += cells[c].water();
        return 1;
    }

    long weather(int t, int warm, int fall, int dust) {
        range(t, runs.size(), 359);
        range(warm, -40, 40);
        range(fall, 0, 300);
        range(dust, 0, 9);
        skies.put(t, new Sky(warm, fall, dust));
        return 1;
    }

    long rates(int l, int f) {
        range(l, 0, 9);
        range(f, 0, 99);
        lapse = l;
        flow = f;
        return 1;
    }

    long feed(int... five) {
        need(tape.length() + 20 <= 800);
        for (int n : five) {
            for (byte b : java.nio.ByteBuffer.allocate(4).putInt(n).array()) {
                tape += (char) (b & 255);
            }
        }
        return tape.length();
    }

    long end(int n) {
        range(n, 0, tape.length());
        tape = tape.substring(0, n);
        return 1;
    }

    // ---- the law: an automaton over the tokens, and a reading of the tokens at each asking

    private static List<Token> tokens(String text) {
        List<Token> all = new ArrayList<>();
        java.util.regex.Matcher m = java.util.regex.Pattern.compile("[ \n]+|[a-zA-Z]+|[0-9]+|(?s:.)").matcher(text);
        while (m.find()) {
            if (!m.group().matches("[ \n]+")) {
                all.add(new Token(m.group(), m.start()));
            }
        }
        all.add(new Token("", text.length()));
        return all;
    }

    private long failAt(int kind, Token token) {
        fault = kind;
        faultPlace = token.place;
        return -1;
    }

    long law() {
        String text = tape;
        tape = "";
        fault = 0;
        faultPlace = -1;
        List<Line> lines = new ArrayList<>();
        String mode = "line";
        boolean inWhen = false;
        boolean left = false;
        boolean fresh = false;
        int parens = 0;
        int nots = 0;
        List<String> amount = null;
        List<String> when = null;
        for (Token token : tokens(text)) {
            String s = token.text;
            boolean number = s.matches("[0-9]{1,4}");
            boolean fact = s.matches("warm|rain|dust|height|shade|debris|month|lying");
            if (mode.equals("line")) {
                if (s.isEmpty()) {
                    law = lines;
                    return lines.size();
                }
                if (!s.matches("fall|snow|ice")) {
                    return failAt(1, token);
                }
                if (lines.size() == 24) {
                    return failAt(3, token);
                }
                amount = new ArrayList<>();
                when = new ArrayList<>();
                lines.add(new Line(s, amount, when));
                mode = "operand";
                inWhen = false;
                fresh = false;
                continue;
            }
            boolean told = true;
            if (mode.equals("operand")) {
                if (number || fact) {
                    mode = "behind";
                } else if (s.equals("(") || s.equals("not") && fresh) {
                    if (parens + nots == 8) {
                        return failAt(3, token);
                    }
                    parens += s.equals("(") ? 1 : 0;
                    nots += s.equals("not") ? 1 : 0;
                } else {
                    return failAt(1, token);
                }
                fresh = fresh && s.equals("not");
            } else if (mode.equals("divisor")) {
                if (!number) {
                    return failAt(1, token);
                }
                if (s.matches("0+")) {
                    return failAt(2, token);
                }
                mode = "behind";
            } else if (s.matches("[-+*]")) {
                mode = "operand";
            } else if (s.equals("/")) {
                mode = "divisor";
            } else if (parens > 0) {
                if (!s.equals(")")) {
                    return failAt(1, token);
                }
                parens--;
            } else if (inWhen && left && s.matches("[<=>]")) {
                left = false;
                mode = "operand";
            } else if (inWhen && !left && s.matches("and|or") || !inWhen && s.equals("when")) {
                told = inWhen;
                inWhen = true;
                left = true;
                fresh = true;
                nots = 0;
                mode = "operand";
            } else if (s.equals(";") && (!inWhen || !left)) {
                nots = 0;
                told = false;
                mode = "line";
            } else {
                return failAt(1, token);
            }
            if (told) {
                (inWhen ? when : amount).add(s);
            }
        }
        throw new IllegalStateException("no end");
    }

    /** Splits at a word outside of ( ), from the left or the right. */
    private static int split(List<String> e, String words, boolean last) {
        int depth = 0;
        int found = -1;
        for (int i = 0; i < e.size(); i++) {
            depth += e.get(i).equals("(") ? 1 : e.get(i).equals(")") ? -1 : 0;
            if (depth == 0 && e.get(i).matches(words) && (last || found < 0)) {
                found = i;
            }
        }
        return found;
    }

    private static int worth(List<String> e, Map<String, Integer> facts) {
        int at = split(e, "[-+]", true);
        if (at < 0) {
            at = split(e, "[*/]", true);
        }
        if (at >= 0) {
            long a = worth(e.subList(0, at), facts);
            long b = worth(e.subList(at + 1, e.size()), facts);
            String sign = e.get(at);
            return (int) (sign.equals("+") ? a + b : sign.equals("-") ? a - b : sign.equals("*") ? a * b : a / b);
        }
        String one = e.get(0);
        if (one.equals("(")) {
            return worth(e.subList(1, e.size() - 1), facts);
        }
        return facts.containsKey(one) ? facts.get(one) : Integer.parseInt(one);
    }

    private static boolean so(List<String> b, Map<String, Integer> facts) {
        for (String word : List.of("or", "and")) {
            int at = split(b, word, false);
            if (at >= 0) {
                boolean one = so(b.subList(0, at), facts);
                boolean two = so(b.subList(at + 1, b.size()), facts);
                return word.equals("or") ? one || two : one && two;
            }
        }
        if (b.get(0).equals("not")) {
            return !so(b.subList(1, b.size()), facts);
        }
        int at = split(b, "[<=>]", false);
        int c = Integer.compare(worth(b.subList(0, at), facts), worth(b.subList(at + 1, b.size()), facts));
        return c == List.of("<", "=", ">").indexOf(b.get(at)) - 1;
    }

    private int warm(Cell o, Sky sky) {
        return sky.warm - o.surface() * lapse / 100;
    }

    private int ask(String sort, Cell o, Sky sky, int month) {
        Map<String, Integer> facts = Map.of("warm", warm(o, sky), "rain", sky.fall, "dust", sky.dust, "height", o.surface(),
            "shade", o.shade, "debris", o.debris, "month", month, "lying", o.snow());
        for (Line line : law) {
            if (line.sort.equals(sort) && (line.when.isEmpty() || so(line.when, facts))) {
                return Math.max(0, Math.min(9999, worth(line.amount, facts)));
            }
        }
        return 0;
    }

    long fault(int what) {
        range(what, 0, 1);
        return what == 0 ? fault : faultPlace;
    }

    long of(int c, int what) {
        range(c, 0, 59);
        range(what, 0, 9);
        Cell o = cells[c];
        return List.of(o.ground, o.shade, o.debris, o.ice, o.loose, o.fresh, o.old, o.firn, o.surface(), o.ground / 100).get(what);
    }

    private Sky sky(int t) {
        return skies.getOrDefault(t, new Sky(0, 0, 0));
    }

    long tells(int c, int what) {
        range(c, 0, 59);
        range(what, 0, 3);
        int now = runs.size();
        range(now, 0, 359);
        return what == 3 ? warm(cells[c], sky(now)) : ask(List.of("fall", "snow", "ice").get(what), cells[c], sky(now), now % 12);
    }

    private State month(Cell[] was, Sky sky, int month) {
        Cell[] is = was.clone();
        long ran = 0;
        long allFell = 0;
        for (int c = 0; c < 60; c++) {
            Cell o = was[c];
            int falls = ask("fall", o, sky, month);
            int snow = ask("snow", o, sky, month);
            int ice = ask("ice", o, sky, month);
            long whole = o.water() + falls;
            allFell += falls;
            int fresh = o.fresh + (warm(o, sky) <= 0 ? falls : 0);
            int lies = fresh + o.old + o.firn;
            if (lies > 0) {
                int stay = Math.max(0, lies - snow);
                int firn = Math.min(o.firn, stay);
                int old = Math.min(o.old, stay - firn);
                is[c] = new Cell(o.ground, o.shade, o.debris, o.ice, o.loose, stay - firn - old, old, firn);
            } else {
                int stay = Math.max(0, 100 * o.ice + o.loose - ice);
                is[c] = new Cell(o.ground, o.shade, o.debris, stay / 100, stay % 100, 0, 0, 0);
            }
            ran += whole - is[c].water();
        }
        if (month < 11) {
            return new State(is, ran, allFell);
        }
        for (int c = 0; c < 60; c++) {
            Cell o = is[c];
            is[c] = new Cell(o.ground, o.shade, o.debris, o.ice + (o.firn + o.loose) / 100, (o.firn + o.loose) % 100, 0, o.fresh, o.old);
        }
        int[] gets = new int[60];
        for (int c = 0; c < 60; c++) {
            int lowest = -1;
            for (int n = 0; n < 60; n++) {
                int far = Math.abs(n / 10 - c / 10) + Math.abs(n % 10 - c % 10);
                if (far == 1 && (lowest < 0 || is[n].surface() < is[lowest].surface())) {
                    lowest = n;
                }
            }
            int drop = is[c].surface() - is[lowest].surface();
            if (drop > 0 && is[c].ice > 0) {
                int steps = Collections.min(List.of(drop * is[c].ice * flow / 10000, drop / 2, is[c].ice));
                gets[c] -= steps;
                gets[lowest] += steps;
            }
        }
        for (int c = 0; c < 60; c++) {
            Cell o = is[c];
            int ice = o.ice + gets[c];
            ran += 100L * Math.max(0, ice - 300);
            is[c] = new Cell(o.ground, o.shade, o.debris, Math.min(300, ice), o.loose, o.fresh, o.old, o.firn);
        }
        return new State(is, ran, allFell);
    }

    long work(int months) {
        range(months, 1, 24);
        range(runs.size() + months, 0, 360);
        long ran = 0;
        for (int k = 0; k < months; k++) {
            int now = runs.size();
            State s = month(cells, sky(now), now % 12);
            cells = s.cells;
            fell += s.fell;
            ran += s.ran;
            runs.add((int) s.ran);
        }
        return ran;
    }

    long run(int t) {
        range(t, 0, runs.size() - 1);
        return runs.get(t);
    }

    private long water() {
        long all = 0;
        for (Cell o : cells) {
            all += o.water();
        }
        return all;
    }

    long look(int what) {
        range(what, 0, 8);
        long icy = 0;
        long least = -1;
        for (Cell o : cells) {
            icy += o.ice > 0 ? 1 : 0;
            least = o.ice > 0 && (least < 0 || o.ground < least) ? o.ground : least;
        }
        long ran = 0;
        for (int run : runs) {
            ran += run;
        }
        long[] all = {runs.size(), fell, ran, given, water(), icy, least, tellings.size(), poles.size()};
        if (all[4] != fell + given - ran) {
            throw new IllegalStateException("the water is not all there");
        }
        return all[what];
    }

    long pole(int c) {
        range(c, 0, 59);
        range(poles.size(), 0, 11);
        poles.add(c);
        return poles.size() - 1;
    }

    private long tell(String key, int a, int b, int day) {
        range(tellings.size(), 0, 399);
        range(day, tellings.isEmpty() ? 0 : tellings.get(tellings.size() - 1).day, 9999);
        tellings.add(new Telling(key, a, b, day));
        return 1;
    }

    long read(int p, int t, int free, int deep, int day) {
        range(p, 0, poles.size() - 1);
        range(t, 0, 359);
        range(free, 0, 999);
        range(deep, 0, 999);
        return tell("read " + p + " " + t, free, deep, day);
    }

    long pit(int c, int t, int weight, int day) {
        range(c, 0, 59);
        range(t, 0, 359);
        range(weight, 1, 9);
        return tell("pit " + c + " " + t, weight, 0, day);
    }

    long gauge(int t, int ran, int day) {
        range(t, 0, 359);
        range(ran, 0, 9999999);
        return tell("gauge " + t, ran, 0, day);
    }

    long map(int k, int c, int height, int day) {
        range(k, 0, 2);
        range(c, 0, 59);
        range(height, 0, 1200);
        return tell("map " + k + " " + c, height, 0, day);
    }

    private Telling known(String key, int day) {
        range(day, 0, 9999);
        Telling best = null;
        for (Telling telling : tellings) {
            best = telling.day <= day && telling.key.equals(key) ? telling : best;
        }
        return best;
    }

    private int band(int c) {
        return cells[c].ground / 100;
    }

    private int[] weights(int p, int t, int day) {
        List<Integer> all = new ArrayList<>();
        for (int c = 0; c < 60; c++) {
            Telling pit = known("pit " + c + " " + t, day);
            if (pit != null && band(c) == band(poles.get(p))) {
                all.add(pit.a);
            }
        }
        return all.isEmpty() ? new int[] {2, 6} : new int[] {Collections.min(all), Collections.max(all)};
    }

    long reading(int p, int t, int day, int what) {
        range(p, 0, poles.size() - 1);
        range(t, 0, 359);
        range(what, 0, 3);
        Telling telling = known("read " + p + " " + t, day);
        need(telling != null);
        return what == 0 ? telling.a : what == 1 ? telling.b : weights(p, t, day)[what - 2];
    }

    long gauged(int t, int day) {
        range(t, 0, 359);
        Telling telling = known("gauge " + t, day);
        need(telling != null);
        return telling.a;
    }

    long mapped(int k, int c, int day) {
        range(k, 0, 2);
        range(c, 0, 59);
        Telling telling = known("map " + k + " " + c, day);
        need(telling != null);
        return telling.a;
    }

    private int[] gains(int p, int a, int b, int day) {
        range(a, 0, 359);
        range(b, 0, 359);
        Telling one = known("read " + p + " " + a, day);
        Telling two = known("read " + p + " " + b, day);
        if (one == null || two == null) {
            return null;
        }
        int[] wa = weights(p, a, day);
        int[] wb = weights(p, b, day);
        int free = 9 * (one.a - two.a);
        return new int[] {free + two.b * wb[0] - one.b * wa[1], free + two.b * wb[1] - one.b * wa[0]};
    }

    long gain(int p, int a, int b, int day, int what) {
        range(p, 0, poles.size() - 1);
        range(what, 0, 1);
        int[] g = gains(p, a, b, day);
        need(g != null);
        return g[what];
    }

    private TreeMap<Integer, int[]> allGains(int a, int b, int day) {
        range(a, 0, 359);
        range(b, 0, 359);
        range(day, 0, 9999);
        TreeMap<Integer, int[]> all = new TreeMap<>();
        for (int p = 0; p < poles.size(); p++) {
            int[] g = gains(p, a, b, day);
            if (g != null) {
                all.put(p, g);
            }
        }
        return all;
    }

    private TreeMap<Integer, int[]> means(Map<Integer, int[]> gains) {
        TreeMap<Integer, int[]> all = new TreeMap<>();
        for (int band = 0; band < 10; band++) {
            double low = 0;
            double high = 0;
            int n = 0;
            for (Map.Entry<Integer, int[]> g : gains.entrySet()) {
                if (band(poles.get(g.getKey())) == band) {
                    low += g.getValue()[0];
                    high += g.getValue()[1];
                    n++;
                }
            }
            if (n > 0) {
                all.put(band, new int[] {(int) Math.floor(low / n), (int) Math.ceil(high / n)});
            }
        }
        return all;
    }

    private static int nearest(TreeMap<Integer, int[]> means, int band) {
        Integer below = means.floorKey(band);
        Integer above = means.ceilingKey(band);
        if (below == null || above == null) {
            return below == null ? above : below;
        }
        return above - band < band - below ? above : below;
    }

    long value(int band, int a, int b, int day, int what) {
        range(band, 0, 9);
        range(what, 0, 2);
        TreeMap<Integer, int[]> means = means(allGains(a, b, day));
        need(!means.isEmpty());
        int from = nearest(means, band);
        return what == 2 ? from : means.get(from)[what];
    }

    private int total(Map<Integer, int[]> gains, int what) {
        TreeMap<Integer, int[]> means = means(gains);
        int all = 0;
        for (int c = 0; c < 60; c++) {
            all += cells[c].ice > 0 ? means.get(nearest(means, band(c)))[what] : 0;
        }
        return all;
    }

    long sum(int a, int b, int day, int what) {
        range(what, 0, 4);
        TreeMap<Integer, int[]> gains = allGains(a, b, day);
        if (what == 4) {
            return gains.size();
        }
        need(gains.size() > (what < 2 ? 0 : 1));
        if (what < 2) {
            return total(gains, what);
        }
        List<Integer> sums = new ArrayList<>();
        for (int p : gains.keySet()) {
            TreeMap<Integer, int[]> fewer = new TreeMap<>(gains);
            fewer.remove(p);
            sums.add(total(fewer, what - 2));
        }
        return what == 2 ? Collections.min(sums) : Collections.max(sums);
    }

    long next(int a, int b, int day) {
        TreeMap<Integer, int[]> means = means(allGains(a, b, day));
        need(!means.isEmpty());
        int[] icy = new int[10];
        for (int c = 0; c < 60; c++) {
            icy[band(c)] += cells[c].ice > 0 ? 1 : 0;
        }
        int best = -1;
        int most = 0;
        for (int band = 9; band >= 0; band--) {
            int missed = icy[band] * Math.abs(band - nearest(means, band));
            if (missed > 0 && missed >= most) {
                most = missed;
                best = band;
            }
        }
        return best;
    }

    private TreeMap<Integer, Integer> rises(int i, int j, int day, boolean icy) {
        range(i, 0, 2);
        range(j, 0, 2);
        need(i != j);
        TreeMap<Integer, Integer> all = new TreeMap<>();
        for (int c = 0; c < 60; c++) {
            Telling one = known("map " + i + " " + c, day);
            Telling two = known("map " + j + " " + c, day);
            if (one != null && two != null && cells[c].ice > 0 == icy) {
                all.put(c, two.a - one.a);
            }
        }
        return all;
    }

    long offset(int i, int j, int day) {
        List<Integer> all = new ArrayList<>(rises(i, j, day, false).values());
        need(!all.isEmpty());
        Collections.sort(all);
        return all.get((all.size() - 1) / 2);
    }

    long parted(int i, int j, int a, int b, int day) {
        long off = offset(i, j, day);
        long all = 0;
        for (int rise : rises(i, j, day, true).values()) {
            all += (rise - off) * 100;
        }
        return all - (long) Math.floor((sum(a, b, day, 0) + sum(a, b, day, 1)) / 2.0);
    }

    long unlike(int hundredths, int day, int what) {
        range(hundredths, 0, 100);
        range(day, 0, 9999);
        range(what, 0, 1);
        List<Integer> all = new ArrayList<>();
        for (int t = 0; t < runs.size(); t++) {
            Telling g = known("gauge " + t, day);
            if (g != null && Math.abs(g.a - runs.get(t)) > (long) runs.get(t) * hundredths / 100) {
                all.add(t);
            }
        }
        return what == 0 ? all.size() : all.isEmpty() ? -1 : all.get(0);
    }

    long foretell(int n, int y, int what) {
        range(n, 1, 24);
        range(y, 0, runs.size() / 12 - 1);
        range(what, 0, 2);
        State s = new State(cells, 0, 0);
        List<Long> told = new ArrayList<>();
        long all = 0;
        for (int t = runs.size(); t < runs.size() + n; t++) {
            s = month(s.cells, sky(12 * y + t % 12), t % 12);
            told.add(s.ran);
            all += s.ran;
        }
        long water = 0;
        for (Cell o : s.cells) {
            water += o.water();
        }
        return what == 0 ? all : what == 1 ? Collections.min(told) : water;
    }

    long spread(int n, int what) {
        range(n, 1, 24);
        range(what, 0, 3);
        List<Long> all = new ArrayList<>();
        for (int y = 0; y < runs.size() / 12; y++) {
            all.add(foretell(n, y, 0));
        }
        need(!all.isEmpty());
        long best = what % 2 == 0 ? Collections.min(all) : Collections.max(all);
        return what < 2 ? best : all.indexOf(best);
    }
}
