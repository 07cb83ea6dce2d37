/** Calls with any ints at all, in any state: none throws, and what can't be changes nothing. */
final class WildTests {
    private static final int[] WILD = {Integer.MIN_VALUE, Integer.MIN_VALUE + 1, -1000000, -61, -1, 0, 1, 2, 3, 9, 11, 12, 24, 59, 60,
        100, 300, 359, 360, 400, 800, 900, 9999, 10000, 1 << 30, Integer.MAX_VALUE - 1, Integer.MAX_VALUE};

    private static long seed = 77;

    public static void main(String[] args) {
        for (int run = 0; run < 600; run++) {
            IceHouse x = new IceHouse();
            prepare(x, run);
            // With what prepare() called these stay within the 512 calls of which something is promised.
            for (int k = 0; k < 60; k++) {
                call(x, any(29));
                Checks.due("WATER in run " + run, x.look(4), x.look(1) + x.look(3) - x.look(2));
            }
        }
        fedAtRandom();
        Checks.close("WildTests");
    }

    private static int any(int n) {
        seed = seed * 6364136223846793005L + 1442695040888963407L;
        return (int) ((seed >>> 33) % n);
    }

    private static int w() {
        return any(5) == 0 ? any(30) : WILD[any(WILD.length)];
    }

    private static void prepare(IceHouse x, int run) {
        Checks.law(x, "fall 9999 * 9999 * (rain + 1); snow height * 100; ice 5000 when month > 3;");
        for (int cell = 0; cell < 60; cell++) {
            x.set(cell, 0, any(901));
            x.set(cell, 3, any(301));
        }
        for (int k = 0; k < run % 16; k++) {
            x.rates(any(10), any(100));
            x.weather((int) x.look(0), any(81) - 40, any(301), any(10));
            x.work(24);
        }
    }

    private static void call(IceHouse x, int way) {
        switch (way) {
            case 0: x.set(w(), w(), w()); break;
            case 1: x.weather(w(), w(), w(), w()); break;
            case 2: x.rates(w(), w()); break;
            case 3: x.feed(w(), w(), w(), w(), w()); break;
            case 4: x.end(w()); break;
            case 5: x.law(); break;
            case 6: x.fault(w()); break;
            case 7: x.of(w(), w()); break;
            case 8: x.tells(w(), w()); break;
            case 9: x.work(w()); break;
            case 10: x.run(w()); break;
            case 11: x.look(w()); break;
            case 12: x.pole(w()); break;
            case 13: x.read(w(), w(), w(), w(), w()); break;
            case 14: x.pit(w(), w(), w(), w()); break;
            case 15: x.gauge(w(), w(), w()); break;
            case 16: x.map(w(), w(), w(), w()); break;
            case 17: x.reading(w(), w(), w(), w()); break;
            case 18: x.gauged(w(), w()); break;
            case 19: x.mapped(w(), w(), w()); break;
            case 20: x.gain(w(), w(), w(), w(), w()); break;
            case 21: x.value(w(), w(), w(), w(), w()); break;
            case 22: x.sum(w(), w(), w(), w()); break;
            case 23: x.next(w(), w(), w()); break;
            case 24: x.offset(w(), w(), w()); break;
            case 25: x.parted(w(), w(), w(), w(), w()); break;
            case 26: x.unlike(w(), w(), w()); break;
            case 27: x.foretell(w(), w(), w()); break;
            default: x.spread(w(), w()); break;
        }
    }

    /** Tapes of any bytes, and of any tokens: a law or a fault within the text. */
    private static void fedAtRandom() {
        String[] tokens = {"fall", "snow", "ice", "when", "or", "and", "not", "warm", "lying", "0", "1", "9999", "10000",
            ";", "+", "-", "*", "/", "(", ")", "<", "=", ">", " ", "\n", "z", "#"};
        for (int k = 0; k < 3000; k++) {
            StringBuilder text = new StringBuilder();
            while (text.length() < 20 + k % 700) {
                text.append(k % 3 == 0 ? "" + (char) any(256) : tokens[any(tokens.length)]).append(any(2) == 0 ? " " : "");
            }
            IceHouse x = new IceHouse();
            int lines = Checks.law(x, text.toString());
            Checks.due("a fault or none", x.fault(0) == 0, lines >= 0);
            Checks.due("its place", x.fault(1) >= -1 && x.fault(1) <= text.length() && x.fault(1) < 0 == lines >= 0, true);
            x.work(12);
        }
    }
}
