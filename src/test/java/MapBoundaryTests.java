/** The edges of promises 26 to 28: MAPS against each other and SUM, GAUGES against RUN. */
final class MapBoundaryTests extends Boundary {
    private static final int NONE = IceHouse.NONE;
    private static final int NO_OFFSET = NONE - 9999;
    private static final int NO_SUM = NONE - 99999999;
    private static final String MEDIAN = "the median (of n the one at place (n - 1) / 2 in rising order)";
    private static final String NO_ICE = "of the differences (j less i) at CELLS that both have and that have no ICE now.";
    private static final String PARTED = "PARTED: the sum over CELLS that both have and that have ICE now of (j less i less OFFSET) times 100,"
        + " less the middle of SUM (LOW and HIGH together by 2, downwards) from a to b.";
    private static final String NONE_26 = "OFFSET of MAPS i and j as known; NONE - 9999 if there are no such CELLS, or one can't be (the same).";
    private static final String NONE_27 = "PARTED; NONE - 99999999 if there is no OFFSET, no SUM, or one can't be.";
    private static final String UNLIKE = "UNLIKE: how many WORKED MONTHS have a GAUGE as known that is off RUN by more than a told part of it"
        + " (RUN times hundredths by 100, downwards).";

    public static void main(String[] args) throws Exception {
        run(MapBoundaryTests.class);
    }

    /** MAPS 0 and 1 of the first CELLS, which differ by so much. */
    private static IceHouse maps(int... rises) {
        IceHouse x = new IceHouse();
        for (int cell = 0; cell < rises.length; cell++) {
            yes(x.map(0, cell, 600, 5));
            yes(x.map(1, cell, 600 + rises[cell], 5));
        }
        return x;
    }

    /** A POLE at CELL 30 whose GAIN from MONTH 0 to 1 is so much LOW and HIGH. */
    private static void gain(IceHouse x, int nines, int deep) {
        int pole = x.pole(30);
        yes(x.read(pole, 0, 500, 0, 5));
        yes(x.read(pole, 1, 500 - nines, deep, 5));
    }

    // ---- promise 26

    static void promise26MapsFrom0To2() {
        sentence(NONE_26);
        IceHouse x = maps(3);
        x.map(2, 0, 610, 5);
        asks(0, 1, NO_OFFSET, i -> x.offset(i, 2, 5));
        asks(1, 2, NO_OFFSET, j -> x.offset(0, j, 5));
        for (int i = -1; i <= 3; i++) {
            for (int j = -1; j <= 3; j++) {
                boolean can = i >= 0 && i < 3 && j >= 0 && j < 3 && i != j;
                int[] height = {600, 603, 610};
                due(x.offset(i, j, 5), can ? height[j] - height[i] : NO_OFFSET);
            }
        }
        due(x.offset(Integer.MIN_VALUE, 1, 5), NO_OFFSET);
        due(x.offset(0, Integer.MAX_VALUE, 5), NO_OFFSET);
    }

    static void promise26DaysFrom0To9999() {
        sentence("TELLINGS have a DAY (0 .. 9999");
        IceHouse x = maps(3);
        asks(5, 9999, NO_OFFSET, day -> x.offset(0, 1, day));
        due(x.offset(0, 1, -1), NO_OFFSET);
        due(x.offset(0, 1, 10000), NO_OFFSET);
        x.map(1, 0, 700, 9);
        x.map(1, 0, 701, 9);
        due(x.offset(0, 1, 8), 3);
        due(x.offset(0, 1, 9), 101);
    }

    static void promise26NoSuchCells() {
        sentence("NONE - 9999 if there are no such CELLS");
        IceHouse x = new IceHouse();
        due(x.offset(0, 1, 5), NO_OFFSET);
        x.map(0, 0, 5, 5);
        x.map(1, 1, 6, 5);
        due(x.offset(0, 1, 5), NO_OFFSET);
        x.map(1, 0, 7, 6);
        due(x.offset(0, 1, 5), NO_OFFSET);
        due(x.offset(0, 1, 6), 2);
        x.set(0, 3, 1);
        due(x.offset(0, 1, 6), NO_OFFSET);
        x.map(0, 1, 1, 7);
        due(x.offset(0, 1, 7), 5);
        due(x.offset(0, 1, 6), NO_OFFSET);
    }

    static void promise26CellsAtBothEnds() {
        sentence("CELLS 0 .. 59");
        IceHouse x = new IceHouse();
        x.map(0, 59, 0, 0);
        x.map(2, 59, 1200, 0);
        due(x.offset(0, 2, 0), 1200);
        due(x.offset(2, 0, 0), -1200);
        x.map(0, 0, 1200, 0);
        x.map(2, 0, 0, 0);
        due(x.offset(0, 2, 0), -1200);
        due(x.offset(2, 0, 0), -1200);
        x.set(0, 3, 1);
        due(x.offset(0, 2, 0), 1200);
    }

    static void promise26MedianOfOneToSeven() {
        sentence(MEDIAN);
        due(maps(9).offset(0, 1, 5), 9);
        due(maps(9, 4).offset(0, 1, 5), 4);
        due(maps(4, 9).offset(0, 1, 5), 4);
        due(maps(9, 4, 7).offset(0, 1, 5), 7);
        due(maps(9, 4, 7, 5).offset(0, 1, 5), 5);
        due(maps(9, 4, 7, 5, -3).offset(0, 1, 5), 5);
        due(maps(9, 4, 7, 5, -3, -8).offset(0, 1, 5), 4);
        due(maps(9, 4, 7, 5, -3, -8, 4).offset(0, 1, 5), 4);
        due(maps(9, 4).offset(1, 0, 5), -9);
        due(maps(2, 2, 2, 1).offset(0, 1, 5), 2);
        due(maps(1, 2, 2, 1).offset(0, 1, 5), 1);
        due(maps(0, -1).offset(0, 1, 5), -1);
    }

    static void promise26MedianOfSixty() {
        sentence("(of n the one at place (n - 1) / 2 in rising order)");
        for (int n = 58; n <= 60; n++) {
            int[] falling = new int[n];
            int[] rising = new int[n];
            for (int k = 0; k < n; k++) {
                rising[k] = 2 * k;
                falling[k] = 2 * (n - 1 - k);
            }
            due(maps(rising).offset(0, 1, 5), 2 * ((n - 1) / 2));
            due(maps(falling).offset(0, 1, 5), 2 * ((n - 1) / 2));
        }
    }

    static void promise26NoIceNow() {
        sentence(NO_ICE);
        IceHouse x = maps(1, 2, 3);
        due(x.offset(0, 1, 5), 2);
        x.set(0, 3, 1);
        due(x.offset(0, 1, 5), 2);
        x.set(1, 3, 300);
        due(x.offset(0, 1, 5), 3);
        Checks.law(x, "ice 1;");
        x.work(1);
        due(x.of(0, 4), 99);
        due(x.offset(0, 1, 5), 1);
        x.set(2, 3, 5);
        due(x.offset(0, 1, 5), 1);
        x.set(0, 3, 1);
        due(x.offset(0, 1, 5), NO_OFFSET);
    }

    // ---- promise 27

    static void promise27ArgumentsAtTheirEnds() {
        sentence(NONE_27);
        IceHouse x = maps(3);
        x.map(2, 0, 600, 5);
        gain(x, 4, 0);
        x.read(0, 359, 500, 0, 5);
        asks(1, 2, NO_SUM, i -> x.parted(i, 0, 0, 1, 5));
        asks(1, 2, NO_SUM, j -> x.parted(0, j, 0, 1, 5));
        asks(0, 359, NO_SUM, a -> x.parted(0, 1, a, 1, 5));
        asks(0, 359, NO_SUM, b -> x.parted(0, 1, 1, b, 5));
        asks(5, 9999, NO_SUM, day -> x.parted(0, 1, 0, 1, day));
        due(x.parted(0, 1, 0, 1, -1), NO_SUM);
        due(x.parted(0, 1, 0, 1, 10000), NO_SUM);
        due(x.parted(0, 0, 0, 1, 5), NO_SUM);
        due(x.parted(3, 0, 0, 1, 5), NO_SUM);
        due(x.parted(0, -1, 0, 1, 5), NO_SUM);
    }

    static void promise27NoOffsetOrNoSum() {
        sentence("if there is no OFFSET, no SUM");
        IceHouse x = maps(3, 5);
        due(x.parted(0, 1, 0, 1, 5), NO_SUM);
        gain(x, 4, 0);
        due(x.parted(0, 1, 0, 1, 5), 0);
        due(x.parted(0, 1, 0, 2, 5), NO_SUM);
        due(x.parted(0, 2, 0, 1, 5), NO_SUM);
        x.set(0, 3, 1);
        due(x.parted(0, 1, 0, 1, 5), -200 - 36);
        x.set(1, 3, 1);
        due(x.parted(0, 1, 0, 1, 5), NO_SUM);
        x.set(0, 3, 0);
        due(x.parted(0, 1, 0, 1, 5), 200 - 36);
    }

    static void promise27NoCellWithIceThatBothHave() {
        sentence(PARTED);
        IceHouse x = maps(3);
        gain(x, 4, 0);
        due(x.parted(0, 1, 0, 1, 5), 0);
        x.set(59, 3, 1);
        due(x.parted(0, 1, 0, 1, 5), -36);
        x.map(0, 59, 700, 6);
        due(x.parted(0, 1, 0, 1, 6), -36);
        x.map(1, 59, 701, 7);
        due(x.parted(0, 1, 0, 1, 6), -36);
        due(x.parted(0, 1, 0, 1, 7), -200 - 36);
    }

    static void promise27MiddleDownwards() {
        sentence("(LOW and HIGH together by 2, downwards)");
        int[][] ninesAndDeepAndMiddle = {{0, 0, 0}, {1, 0, 9}, {1, 1, 13}, {0, 1, 4}, {-1, 1, -5}, {-1, 0, -9}, {-1, 2, -1}, {0, 999, 3996}};
        for (int[] n : ninesAndDeepAndMiddle) {
            IceHouse x = maps(3);
            gain(x, n[0], n[1]);
            x.set(59, 3, 1);
            due(x.sum(0, 1, 5, 0) + x.sum(0, 1, 5, 1), 18 * n[0] + 8 * n[1]);
            due(x.parted(0, 1, 0, 1, 5), -n[2]);
        }
        for (int nines = -2; nines <= 2; nines++) {
            IceHouse x = maps(3);
            gain(x, nines, 1);
            x.pit(30, 1, 2, 6);
            x.pit(31, 1, 3, 6);
            x.set(59, 3, 1);
            due(x.sum(0, 1, 6, 0), 9 * nines + 2);
            due(x.sum(0, 1, 6, 1), 9 * nines + 3);
            due(x.parted(0, 1, 0, 1, 6), -(9 * nines + 2));
        }
    }

    static void promise27AllCells() {
        sentence("the sum over CELLS that both have and that have ICE now of (j less i less OFFSET) times 100");
        IceHouse x = new IceHouse();
        gain(x, 0, 0);
        for (int cell = 0; cell < 60; cell++) {
            x.map(0, cell, cell == 0 ? 1200 : 0, 5);
            x.map(2, cell, cell == 0 ? 0 : 1200, 5);
            x.set(cell, 3, cell == 0 ? 0 : 300);
        }
        due(x.offset(0, 2, 5), -1200);
        due(x.parted(0, 2, 0, 1, 5), 59 * 2400 * 100);
        due(x.parted(2, 0, 0, 1, 5), -59 * 2400 * 100);
        x.set(0, 3, 1);
        due(x.parted(2, 0, 0, 1, 5), NO_SUM);
    }

    // ---- promise 28

    /** MONTH 0 ran 60 times so much; its GAUGE told so much. */
    private static IceHouse gauged(int each, int told) {
        IceHouse x = new IceHouse();
        x.rates(0, 0);
        x.weather(0, 1, 0, 0);
        Checks.law(x, "fall " + each + " when month = 0 and warm = 1;");
        x.work(1);
        yes(x.gauge(0, told, 5));
        due(x.run(0), 60 * each);
        return x;
    }

    static void promise28ArgumentsAtTheirEnds() {
        sentence("UNLIKE with so many hundredths (0 .. 100): how many (what 0), 1 the first such MONTH (NONE). NONE if one can't be, or another what.");
        IceHouse x = gauged(5, 9999);
        asks(0, 100, NONE, hundredths -> x.unlike(hundredths, 5, 0));
        asks(0, 9999, NONE, day -> x.unlike(0, day, 0));
        asks(5, 9999, NONE, day -> x.unlike(0, day, 1));
        asks(0, 1, NONE, what -> x.unlike(0, 5, what));
        due(x.unlike(-1, 5, 1), NONE);
        due(x.unlike(101, 5, 1), NONE);
        due(x.unlike(0, 5, 0), 1);
        due(x.unlike(100, 5, 1), 0);
    }

    static void promise28OffByMore() {
        sentence(UNLIKE);
        int[][] toldAndHundredths = {{300, 0, 0}, {301, 0, 1}, {299, 0, 1}, {303, 1, 0}, {304, 1, 1}, {297, 1, 0}, {296, 1, 1},
            {600, 100, 0}, {601, 100, 1}, {0, 100, 0}, {0, 99, 1}, {597, 99, 0}, {598, 99, 1}, {9999999, 100, 1}};
        for (int[] t : toldAndHundredths) {
            IceHouse x = gauged(5, t[0]);
            due(x.unlike(t[1], 5, 0), t[2]);
            due(x.unlike(t[1], 5, 1), t[2] > 0 ? 0 : NONE);
        }
    }

    static void promise28PartDownwards() {
        sentence("(RUN times hundredths by 100, downwards)");
        int[][] eachToldHundredths = {{1, 60, 1, 0}, {1, 61, 1, 1}, {1, 59, 1, 1}, {1, 61, 2, 0}, {1, 62, 2, 1}, {1, 119, 99, 0}, {1, 120, 99, 1},
            {0, 0, 100, 0}, {0, 1, 100, 1}, {9999, 599940 + 593940, 99, 0}, {9999, 599940 + 593941, 99, 1}, {9999, 1199880, 100, 0}};
        for (int[] t : eachToldHundredths) {
            due(gauged(t[0], t[1]).unlike(t[2], 5, 0), t[3]);
        }
    }

    static void promise28WorkedMonthsAlone() {
        sentence("how many WORKED MONTHS have a GAUGE as known");
        IceHouse x = new IceHouse();
        x.gauge(0, 7, 5);
        x.gauge(1, 7, 5);
        x.gauge(359, 7, 5);
        due(x.unlike(0, 5, 0), 0);
        due(x.unlike(0, 5, 1), NONE);
        x.work(1);
        due(x.unlike(0, 5, 0), 1);
        x.work(1);
        due(x.unlike(0, 5, 0), 2);
        workTo(x, 359);
        due(x.unlike(0, 5, 0), 2);
        x.work(1);
        due(x.unlike(0, 5, 0), 3);
        due(x.unlike(0, 5, 1), 0);
        x.gauge(0, 0, 6);
        due(x.unlike(0, 6, 1), 1);
        x.gauge(1, 0, 6);
        due(x.unlike(0, 6, 1), 359);
        due(x.unlike(0, 6, 0), 1);
        x.gauge(359, 0, 6);
        due(x.unlike(0, 6, 0), 0);
        due(x.unlike(0, 6, 1), NONE);
        due(x.unlike(0, 5, 0), 3);
        due(x.unlike(0, 4, 0), 0);
        due(x.unlike(0, 4, 1), NONE);
    }

    static void promise28MonthsWithoutAGauge() {
        sentence("how many (what 0), 1 the first such MONTH (NONE).");
        IceHouse x = new IceHouse();
        x.weather(3, 1, 0, 0);
        Checks.law(x, "fall 9 when warm > 0;");
        x.work(12);
        due(x.run(3), 540);
        due(x.unlike(0, 9999, 0), 0);
        due(x.unlike(0, 9999, 1), NONE);
        x.gauge(4, 0, 2);
        due(x.unlike(0, 9999, 0), 0);
        x.gauge(3, 0, 3);
        due(x.unlike(99, 3, 0), 1);
        due(x.unlike(99, 3, 1), 3);
        due(x.unlike(100, 3, 0), 0);
        due(x.unlike(99, 2, 0), 0);
    }
}
