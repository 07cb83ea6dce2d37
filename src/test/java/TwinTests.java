import java.util.function.LongSupplier;

/** Runs of 512 calls at most, mostly of what can be, answered by the house and its twin alike. */
final class TwinTests {
    private static final int CALLS = 512;
    // The most that one step calls: a law of 800 bytes is fed, told and asked.
    private static final int STEP_CALLS = 40 + 16;

    private static final String[] FACTS = {"warm", "rain", "dust", "height", "shade", "debris", "month", "lying"};
    private static final String[] SORTS = {"fall", "snow", "ice"};
    private static final String[] PIECES = {"fall", "snow", "ice", "when", "or", "and", "not", "warm", "x", "Q", "12345", "0", "/ 0", "/ 7",
        "(", "((((", ")", ";", "+", "*", "<", "=", "?", "\t", "\u00ff", " ", "\n", "3", "not not not not"};

    private static long seed;
    private static IceHouse x;
    private static Twin twin;
    private static int day;
    private static int[] seen;
    private static int left;

    public static void main(String[] args) {
        int many = args.length > 1 ? Integer.parseInt(args[1]) : 400;
        seen = new int[29];
        for (int run = 0; run < many; run++) {
            seed = 0x5DEECE66DL * (run + 1) + 11;
            anew();
            play();
            Checks.due("calls beyond " + CALLS, left < 0, false);
        }
        for (int k = 0; k < 8 * many; k++) {
            seed = 0x5DEECE66DL * (k + 7) + 5;
            nestedLaw();
            Checks.due("calls beyond " + CALLS, left < 0, false);
        }
        for (int k = 0; k < seen.length; k++) {
            Checks.due("calls of kind " + k, seen[k] > 50, true);
        }
        Checks.close("TwinTests");
    }

    private static void anew() {
        x = new IceHouse();
        twin = new Twin();
        day = 0;
        left = CALLS;
    }

    private static int any(int n) {
        seed = seed * 6364136223846793005L + 1442695040888963407L;
        return (int) ((seed >>> 33) % n);
    }

    /** From least to most, and at times just or far outside. */
    private static int pick(int least, int most) {
        int way = any(60);
        if (way == 0) {
            return least - 1;
        }
        if (way == 1) {
            return most + 1;
        }
        if (way == 2) {
            return any(2) == 0 ? Integer.MIN_VALUE : Integer.MAX_VALUE;
        }
        if (way < 6) {
            return any(2) == 0 ? least : most;
        }
        return least + any(most - least + 1);
    }

    private static String unit(int deep) {
        int way = any(deep > 3 ? 5 : 7);
        if (way < 2) {
            return "" + (any(4) == 0 ? any(10000) : any(30));
        }
        return way < 5 ? FACTS[any(8)] : "(" + sum(deep + 1) + ")";
    }

    private static String product(int deep) {
        String text = unit(deep);
        while (any(3) == 0) {
            text += any(2) == 0 ? " * " + unit(deep) : " / " + (1 + any(60));
        }
        return text;
    }

    private static String sum(int deep) {
        String text = product(deep);
        while (any(3) == 0) {
            text += (any(2) == 0 ? " + " : "-") + product(deep);
        }
        return text;
    }

    private static String claim() {
        return any(5) == 0 ? "not " + claim() : sum(2) + " <=>".charAt(1 + any(3)) + sum(2);
    }

    private static String lawText() {
        StringBuilder text = new StringBuilder();
        int lines = any(12) == 0 ? 24 + any(2) : any(9);
        for (int k = 0; k < lines && text.length() < 700; k++) {
            String sort = SORTS[any(3)];
            if (lines > 20) {
                text.append(sort).append(' ').append(any(99)).append(';');
                continue;
            }
            String usual = sort.equals("fall") ? "rain" : sort.equals("snow") ? "warm * 9 + 20" : "warm * 14 + 60 - debris";
            text.append(sort).append(' ').append(any(3) > 0 ? usual : sum(0));
            if (any(2) == 0) {
                text.append(" when ").append(claim());
                while (any(3) == 0) {
                    text.append(any(2) == 0 ? " and " : " or ").append(claim());
                }
            }
            text.append(any(2) == 0 ? ";" : " ;\n");
        }
        if (any(3) == 0 && text.length() > 0) {
            int at = any(text.length());
            switch (any(4)) {
                case 0: text.insert(at, PIECES[any(PIECES.length)]); break;
                case 1: text.deleteCharAt(at); break;
                case 2: text.setLength(at); break;
                default: text.insert(at, " " + PIECES[any(PIECES.length)] + " "); break;
            }
        }
        return text.length() > 800 ? text.substring(0, 800) : text.toString();
    }

    private static void same(int kind, String call, long got, long none, LongSupplier asked) {
        long due;
        seen[kind]++;
        try {
            due = asked.getAsLong();
        } catch (Twin.Bad bad) {
            due = none;
        }
        left--;
        Checks.due(call, got, due);
    }

    private static void tellLaw() {
        tellText(lawText());
    }

    private static void tellText(String text) {
        for (int at = 0; at < text.length(); at += 20) {
            int a = Checks.four(text, at);
            int b = Checks.four(text, at + 4);
            int c = Checks.four(text, at + 8);
            int d = Checks.four(text, at + 12);
            int e = Checks.four(text, at + 16);
            same(0, "feed", x.feed(a, b, c, d, e), -1, () -> twin.feed(a, b, c, d, e));
        }
        same(1, "end", x.end(text.length()) ? 1 : 0, 0, () -> twin.end(text.length()));
        same(2, "law " + text, x.law(), -1, () -> twin.law());
        same(3, "fault(0) of " + text, x.fault(0), -1, () -> twin.fault(0));
        same(3, "fault(1) of " + text, x.fault(1), -1, () -> twin.fault(1));
        for (int k = 0; k < 12; k++) {
            int cell = any(60);
            int what = k % 4;
            same(4, "tells of " + text, x.tells(cell, what), -1000, () -> twin.tells(cell, what));
        }
    }

    /** So many ( and not around one another that some are the ninth. */
    private static String nest(int left) {
        if (left == 0) {
            return unit(4);
        }
        String side = any(3) == 0 ? unit(4) + " + " : any(3) == 0 ? "2 * " : "";
        return "(" + side + nest(left - 1) + (any(4) == 0 ? "/" + any(3) : "") + ")" + (any(4) == 0 ? "-" + nest(any(3)) : "");
    }

    private static void nestedLaw() {
        anew();
        StringBuilder text = new StringBuilder(SORTS[any(3)] + " " + nest(any(11)));
        String word = " when ";
        for (int k = any(5); k > 0; k--) {
            int nots = any(9);
            text.append(word).append("not ".repeat(nots)).append(nest(Math.max(0, any(10 - nots)))).append(any(2) == 0 ? "<" : " = ").append(nest(any(3)));
            word = any(2) == 0 ? " and " : " or ";
        }
        text.append(';');
        if (any(2) == 0) {
            text.insert(any(text.length()), PIECES[any(PIECES.length)]);
        }
        tellText(text.length() > 800 ? text.substring(0, 800) : text.toString());
    }

    private static void play() {
        int most = 1 + any(40);
        int bare = 1 + any(4);
        for (int cell = 0; cell < 60; cell++) {
            int c = cell;
            int[] v = {any(901), any(10), any(51), any(3) == 0 ? 0 : any(301)};
            for (int what = 0; what < 4; what++) {
                int w = what;
                if (any(4) >= bare) {
                    same(5, "set", x.set(c, w, v[w]) ? 1 : 0, 0, () -> twin.set(c, w, v[w]));
                }
            }
        }
        for (int t = 0; t < most; t++) {
            weather(t);
        }
        tellLaw();
        while (left >= STEP_CALLS) {
            step(24 * any(2) + 1 + any(14));
        }
    }

    private static void weather(int t) {
        int warm = pick(-40, 40);
        int fall = pick(0, 300);
        int dust = pick(0, 9);
        same(6, "weather", x.weather(t, warm, fall, dust) ? 1 : 0, 0, () -> twin.weather(t, warm, fall, dust));
    }

    private static int month() {
        return any(10) > 0 ? any(6) : pick(0, 359);
    }

    private static int dayOf() {
        return any(10) > 0 ? any(day + 2) : pick(0, 9999);
    }

    private static void step(int way) {
        if (any(2) == 0) {
            tell();
        } else if (any(4) == 0) {
            change(way);
        } else if (any(2) == 0) {
            askLevels();
        } else {
            askLaw();
        }
    }

    private static void tell() {
        int t = month();
        int cell = any(3) == 0 ? pick(0, 59) : any(12);
        day = Math.min(9999, day + (any(12) == 0 ? any(9) : 0));
        int d = any(30) == 0 ? pick(0, 9999) : day;
        int p = pick(0, 5);
        boolean done = false;
        switch (any(6)) {
            case 0:
                if (any(12) == 0 || twin.look(8) < 4) {
                    same(7, "pole", x.pole(cell), -1, () -> twin.pole(cell));
                }
                break;
            case 1:
            case 2: {
                int free = pick(0, 999);
                int deep = pick(0, 999);
                done = x.read(p, t, free, deep, d);
                same(8, "read", done ? 1 : 0, 0, () -> twin.read(p, t, free, deep, d));
                break;
            }
            case 3: {
                int weight = pick(1, 9);
                done = x.pit(cell, t, weight, d);
                same(9, "pit", done ? 1 : 0, 0, () -> twin.pit(cell, t, weight, d));
                break;
            }
            case 4: {
                int now = (int) twin.look(0);
                int g = any(3) > 0 && now > 0 ? any(now) : t;
                int ran = any(4) == 0 ? pick(0, 9999999) : ranAbout(g);
                done = x.gauge(g, ran, d);
                same(10, "gauge", done ? 1 : 0, 0, () -> twin.gauge(g, ran, d));
                break;
            }
            default: {
                int k = pick(0, 2);
                int height = pick(0, 1200);
                done = x.map(k, cell, height, d);
                same(11, "map", done ? 1 : 0, 0, () -> twin.map(k, cell, height, d));
                break;
            }
        }
        day = done ? d : day;
    }

    /** What ran in a MONTH, or somewhat more or less. */
    private static int ranAbout(int t) {
        int ran = t >= 0 && t < twin.look(0) ? (int) twin.run(t) : 0;
        return Math.max(0, ran + (any(3) == 0 ? 0 : ran / 100 * (any(50) - 25)));
    }

    private static void change(int way) {
        switch (any(6)) {
            case 0: {
                int months = any(3) == 0 ? pick(1, 24) : 1 + any(4);
                if (twin.look(0) + months < 40 || any(20) == 0) {
                    same(12, "work", x.work(months), -1, () -> twin.work(months));
                }
                break;
            }
            case 1: {
                int lapse = pick(0, 9);
                int flow = pick(0, 99);
                same(13, "rates", x.rates(lapse, flow) ? 1 : 0, 0, () -> twin.rates(lapse, flow));
                break;
            }
            case 2: {
                int cell = pick(0, 59);
                int what = pick(0, 3);
                int v = pick(0, new int[] {900, 9, 50, 300}[Math.max(0, Math.min(3, what))]);
                same(5, "set", x.set(cell, what, v) ? 1 : 0, 0, () -> twin.set(cell, what, v));
                break;
            }
            case 3:
                weather(any(3) == 0 ? pick(0, 359) : (int) twin.look(0) + any(way));
                break;
            case 4:
                if (any(6) == 0) {
                    tellLaw();
                }
                break;
            default: {
                int a = pick(0, 99);
                if (any(4) == 0) {
                    same(0, "feed", x.feed(a, a, a, a, a), -1, () -> twin.feed(a, a, a, a, a));
                }
                int n = pick(0, 40);
                same(1, "end", x.end(n) ? 1 : 0, 0, () -> twin.end(n));
                int none = 0;
                same(1, "end", x.end(none) ? 1 : 0, 0, () -> twin.end(none));
                break;
            }
        }
    }

    private static void askLevels() {
        int a = month();
        int b = month();
        int d = dayOf();
        int p = pick(0, 5);
        int cell = any(2) == 0 ? pick(0, 59) : any(12);
        int i = pick(0, 2);
        int j = pick(0, 2);
        int what = pick(0, 4);
        int band = pick(0, 9);
        same(14, "reading", x.reading(p, a, d, what), -1, () -> twin.reading(p, a, d, what));
        same(15, "gauged", x.gauged(a, d), -1, () -> twin.gauged(a, d));
        same(16, "mapped", x.mapped(i, cell, d), -1, () -> twin.mapped(i, cell, d));
        same(17, "gain", x.gain(p, a, b, d, what), -1000000, () -> twin.gain(p, a, b, d, what));
        same(18, "value", x.value(band, a, b, d, what), -1000000, () -> twin.value(band, a, b, d, what));
        same(19, "sum", x.sum(a, b, d, what), -100000000, () -> twin.sum(a, b, d, what));
        same(20, "next", x.next(a, b, d), -1, () -> twin.next(a, b, d));
        same(21, "offset", x.offset(i, j, d), -10000, () -> twin.offset(i, j, d));
        same(22, "parted", x.parted(i, j, a, b, d), -100000000, () -> twin.parted(i, j, a, b, d));
        int h = pick(0, 100);
        same(23, "unlike", x.unlike(h, d, what), -1, () -> twin.unlike(h, d, what));
    }

    private static void askLaw() {
        int cell = pick(0, 59);
        int what = pick(0, 9);
        same(24, "of", x.of(cell, what), -1, () -> twin.of(cell, what));
        same(25, "look", x.look(what), -1000, () -> twin.look(what));
        same(4, "tells", x.tells(cell, what), -1000, () -> twin.tells(cell, what));
        int t = any(4) == 0 ? pick(0, 359) : any(30);
        same(26, "run", x.run(t), -1, () -> twin.run(t));
        same(3, "fault", x.fault(what), -1, () -> twin.fault(what));
        if (any(6) == 0) {
            int n = any(3) == 0 ? pick(1, 24) : 1 + any(4);
            int y = any(4) == 0 ? pick(0, 30) : any(3);
            int k = pick(0, 3);
            same(27, "foretell", x.foretell(n, y, k), -1, () -> twin.foretell(n, y, k));
            same(28, "spread", x.spread(n, k), -1, () -> twin.spread(n, k));
        }
    }
}
