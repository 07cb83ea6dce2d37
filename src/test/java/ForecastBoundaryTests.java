/** The edges of promises 29 and 30: the water of the MONTHS to come. */
final class ForecastBoundaryTests extends Boundary {
    private static final int NONE = IceHouse.NONE;
    private static final String FORETOLD = "FORETOLD for n MONTHS (1 .. 24) from now on (beyond MONTH 359, too) by YEAR y (all of whose MONTHS were WORKED)";
    private static final String NONE_29 = "NONE if one can't be, or another what.";
    private static final String NONE_30 = "NONE: none was, one can't be, or another what.";

    public static void main(String[] args) throws Exception {
        run(ForecastBoundaryTests.class);
    }

    /** A house where what falls RUNS; MONTH t has FALL f[t]. */
    private static IceHouse rains(int... fall) {
        IceHouse x = new IceHouse();
        x.rates(0, 0);
        for (int t = 0; t < fall.length; t++) {
            x.weather(t, 1, fall[t], 0);
        }
        Checks.law(x, "fall rain;");
        return x;
    }

    static void promise29From1To24Months() {
        sentence(FORETOLD);
        IceHouse x = rains(1, 1, 1, 1, 1, 1, 1, 1, 1, 1, 1, 1);
        workTo(x, 12);
        for (int what = 0; what < 3; what++) {
            int asked = what;
            asks(1, 24, NONE, n -> (int) x.foretell(n, 0, asked));
        }
        due(x.foretell(1, 0, 0), 60);
        due(x.foretell(23, 0, 0), 60 * 23);
        due(x.foretell(24, 0, 0), 60 * 24);
        due(x.foretell(0, 0, 0), NONE);
        due(x.foretell(25, 0, 0), NONE);
    }

    static void promise29WhatFrom0To2() {
        sentence(NONE_29);
        IceHouse x = rains(3);
        workTo(x, 12);
        asks(0, 2, NONE, what -> x.foretell(12, 0, what));
        due(x.foretell(12, 0, 0), 180);
        due(x.foretell(12, 0, 1), 0);
        due(x.foretell(12, 0, 2), 0);
    }

    static void promise29YearsThatWereWorkedWhole() {
        sentence("by YEAR y (all of whose MONTHS were WORKED)");
        IceHouse x = rains();
        int[] worked = {0, 1, 11, 12, 13, 23, 24, 25, 35, 36, 347, 348, 359, 360};
        for (int t : worked) {
            workTo(x, t);
            due(x.foretell(1, t / 12 - 1, 0), t < 12 ? NONE : 0);
            due(x.foretell(1, t / 12, 0), NONE);
            due(x.foretell(1, 0, 0), t < 12 ? NONE : 0);
            due(x.foretell(1, -1, 0), NONE);
            due(x.foretell(1, Integer.MIN_VALUE, 0), NONE);
            due(x.foretell(1, Integer.MAX_VALUE, 0), NONE);
            due(x.foretell(1, Integer.MAX_VALUE / 12, 0), NONE);
        }
        due(x.foretell(1, 29, 0), 0);
        due(x.foretell(1, 30, 0), NONE);
    }

    static void promise29BeyondMonth359() {
        sentence("(beyond MONTH 359, too)");
        IceHouse x = rains(1, 2, 4, 8, 16, 32, 64, 128, 256, 300, 250, 200);
        x.weather(358, 1, 70, 0);
        x.weather(359, 1, 90, 0);
        workTo(x, 358);
        due(x.foretell(1, 0, 0), 60 * 250);
        due(x.foretell(2, 0, 0), 60 * 450);
        due(x.foretell(3, 0, 0), 60 * 451);
        due(x.foretell(24, 0, 0), 2 * 60 * 1261);
        due(x.foretell(3, 29, 0), NONE);
        workTo(x, 360);
        due(x.foretell(1, 0, 0), 60);
        due(x.foretell(12, 0, 0), 60 * 1261);
        due(x.foretell(13, 0, 0), 60 * 1262);
        due(x.foretell(24, 0, 0), 2 * 60 * 1261);
        due(x.foretell(10, 29, 0), 0);
        due(x.foretell(11, 29, 0), 60 * 70);
        due(x.foretell(24, 29, 0), 2 * 60 * 160);
        due(x.look(0), 360);
    }

    static void promise29SameMonthOverTheTurnOfAYear() {
        sentence("they are WORKED with the WEATHER of the same MONTH of YEAR y");
        IceHouse x = rains(1, 2, 4, 8, 16, 32, 64, 128, 256, 300, 250, 200, 300, 300, 300, 300, 300, 300, 300, 300, 300, 300, 7, 9);
        workTo(x, 23);
        due(x.foretell(1, 0, 0), 60 * 200);
        due(x.foretell(2, 0, 0), 60 * 201);
        due(x.foretell(13, 0, 0), 60 * 1461);
        due(x.foretell(14, 0, 0), 60 * 1462);
        workTo(x, 24);
        due(x.foretell(1, 0, 0), 60);
        due(x.foretell(12, 1, 0), 60 * 3016);
        due(x.foretell(13, 1, 0), 60 * 3316);
        due(x.foretell(24, 1, 1), 60 * 7);
    }

    static void promise29LeastOfOneAndOfMany() {
        sentence("RUN in all, and the least of one of them.");
        IceHouse x = rains(9, 5, 5, 8, 0, 3, 3, 3, 3, 3, 3, 2);
        workTo(x, 12);
        long[] least = {9, 5, 5, 5, 0, 0};
        for (int n = 1; n <= 6; n++) {
            due(x.foretell(n, 0, 1), 60 * least[n - 1]);
        }
        IceHouse y = rains(9, 8, 7, 6, 5, 5, 5, 5, 5, 5, 5, 2);
        workTo(y, 12);
        due(y.foretell(11, 0, 1), 300);
        due(y.foretell(12, 0, 1), 120);
        due(y.foretell(24, 0, 1), 120);
    }

    static void promise29NothingIsDone() {
        sentence("(Nothing is done.)");
        IceHouse x = new IceHouse();
        x.rates(0, 50);
        x.weather(0, 0, 200, 3);
        x.weather(12, 0, 300, 4);
        Checks.law(x, "fall rain; snow 10 when month > 8; ice 50;");
        x.set(0, 0, 900);
        x.set(0, 3, 300);
        x.set(59, 3, 3);
        workTo(x, 20);
        long[] stood = shot(x);
        for (int n = 1; n <= 24; n++) {
            x.foretell(n, 0, n % 3);
        }
        x.foretell(25, 0, 0);
        stands(x, stood);
        x.work(4);
        due(x.look(4), x.look(1) + x.look(3) - x.look(2));
    }

    static void promise29AsItIsThenWorked() {
        sentence("what 0 RUN in all, 1 the least RUN of one MONTH, 2 WATER behind it.");
        IceHouse x = new IceHouse();
        x.rates(5, 50);
        for (int t = 0; t < 60; t++) {
            x.weather(t, t % 12 * 3 - 15, 50 + t % 12, t % 12 % 10);
        }
        Checks.law(x, "fall rain + dust; snow warm * 3 + 9 - shade; ice warm * 20 - debris when month > 3; ice 5;");
        for (int cell = 0; cell < 30; cell++) {
            x.set(cell, 0, 30 * cell);
            x.set(cell, 1, cell % 10);
            x.set(cell, 2, cell);
            x.set(cell, 3, 10 * cell);
        }
        workTo(x, 30);
        long all = x.foretell(24, 1, 0);
        long least = x.foretell(24, 1, 1);
        long water = x.foretell(24, 1, 2);
        due(x.work(24), all);
        due(x.look(4), water);
        long found = Long.MAX_VALUE;
        for (int t = 30; t < 54; t++) {
            found = Math.min(found, x.run(t));
        }
        due(found, least);
    }

    static void promise29EachFactAsItIsNow() {
        sentence("from now on");
        IceHouse x = rains(300, 0, 0, 0, 0, 0, 0, 0, 0, 0, 0, 0);
        workTo(x, 12);
        Checks.law(x, "fall height * 7 + shade * 100 + debris + rain;");
        due(x.foretell(1, 0, 0), 60 * 300);
        x.set(0, 0, 900);
        due(x.foretell(1, 0, 0), 60 * 300 + 6300);
        x.set(0, 1, 9);
        due(x.foretell(1, 0, 0), 60 * 300 + 7200);
        x.set(0, 2, 50);
        due(x.foretell(1, 0, 0), 60 * 300 + 7250);
        x.set(0, 3, 300);
        due(x.foretell(1, 0, 0), 60 * 300 + 9350);
        x.set(59, 0, 1);
        due(x.foretell(1, 0, 0), 60 * 300 + 9357);
        due(x.foretell(1, 0, 2), 30000);
    }

    /** MONTH 35 is next, FIRN 100 lies on each CELL, and CELL 59 has so much ICE. */
    private static IceHouse pressed(int ice) {
        IceHouse x = new IceHouse();
        x.rates(0, 0);
        x.weather(0, 0, 100, 0);
        Checks.law(x, "fall rain;");
        workTo(x, 35);
        x.set(59, 3, ice);
        due(x.of(59, 7), 100);
        return x;
    }

    static void promise29IceAbove300Runs() {
        sentence("ICE of a CELL above 300 RUNS (100 each step) behind both.");
        for (int ice = 298; ice <= 300; ice++) {
            IceHouse x = pressed(ice);
            int over = ice == 300 ? 100 : 0;
            due(x.foretell(1, 1, 0), over);
            due(x.foretell(1, 0, 1), over);
            due(x.foretell(2, 1, 0), over);
            due(x.foretell(2, 1, 1), 0);
            due(x.foretell(1, 1, 2), 60 * 100 + 100 * ice - over);
            due(x.of(59, 3), ice);
            due(x.of(59, 7), 100);
            due(x.look(2), 0);
            due(x.run(35), NONE);
        }
    }

    static void promise30IceAbove300Runs() {
        sentence("ICE of a CELL above 300 RUNS (100 each step) behind both.");
        IceHouse x = pressed(300);
        due(x.spread(1, 0), 100);
        due(x.spread(1, 1), 100);
        due(x.spread(24, 1), 100);
        due(x.of(59, 3), 300);
        due(pressed(299).spread(1, 1), 0);
    }

    static void promise29WaterWhereAllLiesAndNone() {
        sentence("2 WATER behind it");
        IceHouse x = new IceHouse();
        x.rates(0, 0);
        x.weather(0, 0, 1, 0);
        Checks.law(x, "fall rain;");
        workTo(x, 12);
        due(x.foretell(1, 0, 2), 120);
        due(x.foretell(12, 0, 2), 120);
        due(x.foretell(13, 0, 2), 180);
        Checks.law(x, "snow 9999;");
        due(x.foretell(1, 0, 2), 0);
        due(x.foretell(1, 0, 0), 60);
        due(x.foretell(2, 0, 1), 0);
    }

    static void promise30From1To24Months() {
        sentence("FORETOLD for n MONTHS (1 .. 24)");
        IceHouse x = rains(1, 1, 1, 1, 1, 1, 1, 1, 1, 1, 1, 1);
        workTo(x, 12);
        for (int what = 0; what < 4; what++) {
            int asked = what;
            asks(1, 24, NONE, n -> x.spread(n, asked));
        }
        due(x.spread(1, 0), 60);
        due(x.spread(24, 1), 60 * 24);
        due(x.spread(0, 0), NONE);
        due(x.spread(25, 0), NONE);
    }

    static void promise30WhatFrom0To3() {
        sentence(NONE_30);
        IceHouse x = rains(1);
        workTo(x, 12);
        asks(0, 3, NONE, what -> x.spread(1, what));
        due(x.spread(1, 0), 60);
        due(x.spread(1, 1), 60);
        due(x.spread(1, 2), 0);
        due(x.spread(1, 3), 0);
    }

    static void promise30NoYearWas() {
        sentence("NONE: none was");
        IceHouse x = rains(5);
        for (int t = 0; t <= 11; t++) {
            for (int what = 0; what < 4; what++) {
                due(x.spread(1, what), NONE);
            }
            x.work(1);
        }
        due(x.look(0), 12);
        due(x.spread(1, 0), 300);
        due(x.spread(1, 3), 0);
    }

    static void promise30OfSeveralTheFirst() {
        sentence("2, 3 the YEARS of these (of several the first).");
        IceHouse x = rains(5, 0, 0, 0, 0, 0, 0, 0, 0, 0, 0, 0, 3, 0, 0, 0, 0, 0, 0, 0, 0, 0, 0, 0,
            8, 0, 0, 0, 0, 0, 0, 0, 0, 0, 0, 0, 3, 0, 0, 0, 0, 0, 0, 0, 0, 0, 0, 0, 8);
        workTo(x, 12);
        due(x.spread(1, 2), 0);
        due(x.spread(1, 3), 0);
        workTo(x, 24);
        due(x.spread(1, 2), 1);
        due(x.spread(1, 3), 0);
        workTo(x, 36);
        due(x.spread(1, 2), 1);
        due(x.spread(1, 3), 2);
        workTo(x, 48);
        due(x.spread(1, 2), 1);
        due(x.spread(1, 3), 2);
        workTo(x, 60);
        due(x.spread(1, 0), 180);
        due(x.spread(1, 1), 480);
        due(x.spread(1, 2), 1);
        due(x.spread(1, 3), 2);
        workTo(x, 61);
        due(x.spread(11, 2), 0);
        due(x.spread(11, 3), 0);
    }

    static void promise30TheYearThatIsNotOverIsNone() {
        sentence("LEAST and MOST of all such YEARS.");
        IceHouse x = rains(5, 5, 5, 5, 5, 5, 5, 5, 5, 5, 5, 5, 1, 9, 1, 1, 1, 1, 1, 1, 1, 1, 1, 1);
        workTo(x, 23);
        due(x.spread(1, 0), 300);
        due(x.spread(2, 1), 600);
        due(x.spread(1, 2), 0);
        workTo(x, 24);
        due(x.spread(1, 0), 60);
        due(x.spread(1, 2), 1);
        due(x.spread(2, 0), 600);
        due(x.spread(2, 1), 600);
        due(x.spread(2, 3), 0);
        due(x.spread(2, 2), 0);
        due(x.spread(3, 0), 660);
        due(x.spread(3, 2), 1);
    }

    static void promise30BeyondMonth359() {
        sentence("(beyond MONTH 359, too)");
        IceHouse x = rains(6);
        x.weather(359, 1, 200, 0);
        x.weather(348, 1, 200, 0);
        workTo(x, 359);
        due(x.spread(1, 0), 0);
        due(x.spread(1, 1), 0);
        due(x.spread(2, 1), 360);
        due(x.spread(2, 3), 0);
        due(x.spread(24, 1), 720);
        workTo(x, 360);
        due(x.spread(24, 0), 0);
        due(x.spread(24, 1), 48000);
        due(x.spread(24, 2), 1);
        due(x.spread(24, 3), 29);
    }

    static void promise30NothingIsDone() {
        sentence("(Nothing is done.)");
        IceHouse x = new IceHouse();
        x.weather(0, 0, 200, 3);
        x.weather(12, 0, 300, 4);
        Checks.law(x, "fall rain; snow 10 when month > 8; ice 50;");
        x.set(0, 0, 900);
        x.set(0, 3, 300);
        workTo(x, 30);
        long[] stood = shot(x);
        for (int what = 0; what < 5; what++) {
            x.spread(24, what);
        }
        stands(x, stood);
    }
}
