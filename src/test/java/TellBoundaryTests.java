/** The edges of promise 10: what THE LAW tells. */
final class TellBoundaryTests extends Boundary {
    private static final int NO_FACT = IceHouse.NONE - 999;
    private static final String CELLS = "CELLS 0 .. 59: x 0 .. 9, y 0 .. 5, CELL 10 y + x.";
    private static final String AT_A_CELL = "At a CELL: warm is WARM of the MONTH less SURFACE times LAPSE by 100 (downwards);"
        + " rain the MONTH's FALL; height SURFACE; lying all SNOW.";
    private static final String COUNTS = "the first line whose B is so counts: its E, 0 at least, 9999 at most; without one 0.";
    private static final String WRAPS = "Ints, which wrap; / goes towards 0.";
    private static final String MOST_INT = "(2147*1000*1000+483*1000+647)";

    public static void main(String[] args) throws Exception {
        run(TellBoundaryTests.class);
    }

    private static int told(String amount) {
        IceHouse x = new IceHouse();
        due(Checks.law(x, "ice " + amount + ";"), 1);
        return x.tells(59, 2);
    }

    private static boolean so(String condition) {
        return told("1 when " + condition) == 1;
    }

    static void promise10CellsFrom0To59() {
        sentence(CELLS);
        IceHouse x = new IceHouse();
        Checks.law(x, "fall height; snow height; ice height;");
        x.set(0, 0, 3);
        x.set(59, 0, 900);
        for (int what = 0; what < 4; what++) {
            int asked = what;
            asks(0, 59, NO_FACT, cell -> x.tells(cell, asked));
        }
        due(x.tells(0, 0), 3);
        due(x.tells(59, 0), 900);
    }

    static void promise10WhatFrom0To3() {
        sentence("what 0 fall, 1 snow, 2 ice, 3 warm. NONE - 999: one can't be, or behind the last MONTH.");
        IceHouse x = new IceHouse();
        Checks.law(x, "fall 1; snow 2; ice 3;");
        x.weather(0, 4, 0, 0);
        asks(0, 3, NO_FACT, what -> x.tells(0, what));
        for (int what = 0; what < 4; what++) {
            due(x.tells(0, what), what + 1);
        }
    }

    static void promise10BehindTheLastMonth() {
        sentence("or behind the last MONTH.");
        IceHouse x = new IceHouse();
        Checks.law(x, "fall 1; snow 2; ice 3;");
        x.weather(359, 4, 0, 0);
        workTo(x, 359);
        for (int what = 0; what < 4; what++) {
            due(x.tells(59, what), what + 1);
        }
        x.work(1);
        for (int what = -1; what <= 4; what++) {
            due(x.tells(59, what), NO_FACT);
        }
    }

    static void promise10WarmDownwards() {
        sentence(AT_A_CELL);
        IceHouse x = new IceHouse();
        x.rates(1, 0);
        int[][] surfaceAndLess = {{0, 0}, {99, 0}, {100, 1}, {199, 1}, {200, 2}, {899, 8}, {900, 9}};
        for (int[] s : surfaceAndLess) {
            x.set(0, 0, s[0]);
            due(x.tells(0, 3), -s[1]);
        }
        x.set(0, 3, 99);
        due(x.tells(0, 3), -9);
        x.set(0, 3, 100);
        due(x.tells(0, 3), -10);
        x.set(0, 3, 300);
        x.rates(9, 0);
        x.weather(0, -40, 0, 0);
        due(x.tells(0, 3), -148);
        x.weather(0, 40, 0, 0);
        due(x.tells(0, 3), -68);
        x.rates(0, 0);
        due(x.tells(0, 3), 40);
    }

    static void promise10FactsAtTheirEnds() {
        sentence("rain the MONTH's FALL; height SURFACE; lying all SNOW.");
        IceHouse x = new IceHouse();
        Checks.law(x, "fall rain; snow height; ice dust * 1000 + shade * 100 + debris;");
        due(x.tells(0, 0), 0);
        due(x.tells(0, 1), 0);
        due(x.tells(0, 2), 0);
        x.weather(0, 0, 300, 9);
        x.set(0, 0, 900);
        x.set(0, 1, 9);
        x.set(0, 2, 50);
        x.set(0, 3, 300);
        due(x.tells(0, 0), 300);
        due(x.tells(0, 1), 1200);
        due(x.tells(0, 2), 9950);
    }

    static void promise10LyingIsAllThreeHeaps() {
        sentence("lying all SNOW");
        IceHouse x = new IceHouse();
        x.rates(0, 0);
        x.weather(0, 0, 1, 0);
        x.weather(12, 0, 20, 0);
        x.weather(24, 0, 300, 0);
        Checks.law(x, "fall rain; snow lying when lying = 321 and month = 2;");
        due(x.tells(0, 1), 0);
        workTo(x, 26);
        due(x.of(0, 5), 300);
        due(x.of(0, 6), 20);
        due(x.of(0, 7), 1);
        due(x.tells(0, 1), 321);
        due(x.work(1), 60 * 321);
        due(x.look(4), 0);
    }

    static void promise10MonthOfTheYear() {
        sentence("MONTH t modulo 12 of YEAR t by 12.");
        IceHouse x = new IceHouse();
        Checks.law(x, "ice month;");
        for (int t : new int[] {0, 1, 11, 12, 13, 23, 24, 347, 348, 359}) {
            workTo(x, t);
            due(x.tells(0, 2), t % 12);
        }
    }

    static void promise10OfTheMonthOfNow() {
        sentence("What THE LAW tells at a CELL for the MONTH of now");
        IceHouse x = new IceHouse();
        Checks.law(x, "fall rain; ice dust;");
        x.weather(0, 1, 10, 1);
        x.weather(1, 2, 20, 2);
        due(x.tells(0, 0), 10);
        due(x.tells(0, 2), 1);
        due(x.tells(0, 3), 1);
        x.work(1);
        due(x.tells(0, 0), 20);
        due(x.tells(0, 2), 2);
        due(x.tells(0, 3), 2);
    }

    static void promise10From0To9999() {
        sentence(COUNTS);
        due(told("0"), 0);
        due(told("0 - 1"), 0);
        due(told("0 - 9999 * 9999"), 0);
        due(told("1 - 1"), 0);
        due(told("1"), 1);
        due(told("9998"), 9998);
        due(told("9999"), 9999);
        due(told("9999 + 1"), 9999);
        due(told("9999 * 9999"), 9999);
        due(told("0 - " + MOST_INT + " - 1"), 0);
        due(told(MOST_INT), 9999);
    }

    static void promise10TheFirstLineThatIsSo() {
        sentence("Of each sort (fall, snow, ice) the first line whose B is so counts");
        IceHouse x = new IceHouse();
        due(Checks.law(x, "ice 1 when 1=2; fall 9; ice 2 when 1=1; ice 3; ice 4 when 1=1;"), 5);
        due(x.tells(0, 2), 2);
        due(x.tells(0, 0), 9);
        due(x.tells(0, 1), 0);
        due(Checks.law(x, "ice 0; ice 3;"), 2);
        due(x.tells(0, 2), 0);
        due(Checks.law(x, "ice 0-5 when 1=1; ice 3;"), 2);
        due(x.tells(0, 2), 0);
        due(Checks.law(x, "ice 1 when 1=2;".repeat(23) + "ice 7;"), 24);
        due(x.tells(0, 2), 7);
        due(Checks.law(x, "ice 1 when 1=2;".repeat(23) + "ice 7 when not 1=1;"), 24);
        due(x.tells(0, 2), 0);
        due(Checks.law(x, "snow 1;".repeat(22) + "fall 5;ice 6;"), 24);
        due(x.tells(0, 0), 5);
        due(x.tells(0, 1), 1);
        due(x.tells(0, 2), 6);
    }

    static void promise10WithoutALine() {
        sentence("without one 0.");
        IceHouse x = new IceHouse();
        due(x.tells(0, 0), 0);
        due(Checks.law(x, "snow 5;"), 1);
        due(x.tells(0, 0), 0);
        due(x.tells(0, 1), 5);
        due(x.tells(0, 2), 0);
        due(Checks.law(x, "snow 5 when 1>2; ice 5 when 1>1; fall 5 when 1<1;"), 3);
        due(x.tells(0, 0), 0);
        due(x.tells(0, 1), 0);
        due(x.tells(0, 2), 0);
    }

    static void promise10IntsWrap() {
        sentence(WRAPS);
        yes(so(MOST_INT + " > 0"));
        yes(so(MOST_INT + " + 1 < 0"));
        yes(so(MOST_INT + " + 1 = 0 - " + MOST_INT + " - 1"));
        yes(so("0 - " + MOST_INT + " - 1 < 0"));
        yes(so("0 - " + MOST_INT + " - 2 > 0"));
        yes(so("0 - " + MOST_INT + " - 2 = " + MOST_INT));
        yes(so("256 * 256 * 256 * 256 = 0"));
        yes(so("256 * 256 * 256 * 128 < 0"));
        yes(so("256 * 256 * 256 * 127 > 0"));
        yes(so(MOST_INT + " * 2 = 0 - 2"));
        due(told(MOST_INT + " + " + MOST_INT + " + 5"), 3);
        due(told("256 * 256 * 256 * 256 + 9"), 9);
        due(told("(" + MOST_INT + " + 1) / 256 / 256 / 256 + 130"), 2);
        due(told("2147 * 1000 * 1000 / 1000 / 1000"), 2147);
        due(told("2148 * 1000 * 1000 / 1000 / 1000 + 2148"), 2148 - 2146);
    }

    static void promise10TowardsZero() {
        sentence("/ goes towards 0.");
        due(told("7 / 2"), 3);
        due(told("10 + (0 - 7) / 2"), 7);
        due(told("10 + (0 - 1) / 2"), 10);
        due(told("1 / 9999"), 0);
        due(told("9998 / 9999"), 0);
        due(told("9999 / 9999"), 1);
        due(told("5 + (0 - 9998) / 9999"), 5);
        due(told("5 + (0 - 9999) / 9999"), 4);
        due(told("0 / 1"), 0);
    }

    static void promise10OrderOfSigns() {
        sentence("E = T {(+ | -) T}. T = U {(* U | / NUMBER)}.");
        due(told("10 - 3 - 2"), 5);
        due(told("10 - (3 - 2)"), 9);
        due(told("100 / 10 / 5"), 2);
        due(told("7 / 2 * 2"), 6);
        due(told("2 * 7 / 2"), 7);
        due(told("1 + 2 * 3 - 4 / 2"), 5);
        due(told("((((((((5))))))))"), 5);
        due(told("1+(1+(1+(1+(1+(1+(1+(1+1)))))))"), 9);
        due(told("2*(1+2*(1+2*(1+2*(1+2*(1+2*(1+2*(1+2*(1))))))))"), 2 * 255);
        due(told("9-2*(9-2*(9-2*(9-2*(9-2*(9-2*(9-2*(9-2*(4))))))))"), 9 - 2 * (9 - 2 * (9 - 2 * (9 - 2 * (9 - 2 * (9 - 2 * 7))))));
    }

    static void promise10Comparisons() {
        sentence("C = E (< | = | >) E | not C.");
        int[] values = {-2, -1, 0, 1, 2};
        for (int a : values) {
            for (int b : values) {
                String left = a < 0 ? "0-" + -a : "" + a;
                String right = b < 0 ? "0-" + -b : "" + b;
                due(so(left + "<" + right) ? 1 : 0, a < b ? 1 : 0);
                due(so(left + "=" + right) ? 1 : 0, a == b ? 1 : 0);
                due(so(left + ">" + right) ? 1 : 0, a > b ? 1 : 0);
                due(so("not " + left + "<" + right) ? 1 : 0, a < b ? 0 : 1);
                due(so("not " + left + "=" + right) ? 1 : 0, a == b ? 0 : 1);
                due(so("not " + left + ">" + right) ? 1 : 0, a > b ? 0 : 1);
                due(so(left + "<" + right + " and 1=1") ? 1 : 0, a < b ? 1 : 0);
                due(so("1<2 and " + left + ">" + right) ? 1 : 0, a > b ? 1 : 0);
                due(so("2<1 or " + left + "<" + right + " and 2>1") ? 1 : 0, a < b ? 1 : 0);
            }
        }
        yes(so("not not not not not not not not 1=1"));
        no(so("not not not not not not not 1=1"));
        yes(so("0 - " + MOST_INT + " - 1 < " + MOST_INT));
        no(so("0 - " + MOST_INT + " - 1 > " + MOST_INT));
    }

    static void promise10AndAndOr() {
        sentence("B = A {or A}. A = C {and C}.");
        String[] claim = {"1=2", "1=1"};
        for (int bits = 0; bits < 16; bits++) {
            boolean a = (bits & 1) > 0;
            boolean b = (bits & 2) > 0;
            boolean c = (bits & 4) > 0;
            boolean d = (bits & 8) > 0;
            String one = claim[bits & 1];
            String two = claim[bits >> 1 & 1];
            String three = claim[bits >> 2 & 1];
            String four = claim[bits >> 3 & 1];
            due(so(one + " or " + two + " and " + three + " or " + four) ? 1 : 0, a || b && c || d ? 1 : 0);
            due(so(one + " and " + two + " or " + three + " and " + four) ? 1 : 0, a && b || c && d ? 1 : 0);
            due(so(one + " and " + two + " and " + three + " or not " + four) ? 1 : 0, a && b && c || !d ? 1 : 0);
            due(so("not " + one + " or " + two + " or " + three + " and not not " + four) ? 1 : 0, !a || b || c && d ? 1 : 0);
        }
    }

    static void promise10EIsNotCutInsideOfB() {
        sentence("its E, 0 at least, 9999 at most");
        yes(so("0 - 5 < 0 - 4"));
        yes(so("9999 + 2 > 9999 + 1"));
        yes(so("9999 * 2 / 2 = 9999"));
        due(told("(9999 + 9999) / 2"), 9999);
        due(told("9999 * 9999 / 9999 / 3"), 3333);
        due(told("(0 - 50) * (0 - 2)"), 100);
    }
}
