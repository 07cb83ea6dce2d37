/** The edges of promises 22 to 25: GAIN, VALUE, SUM with its DOUBT, and NEXT. */
final class BalanceBoundaryTests extends Boundary {
    private static final int NONE = IceHouse.NONE;
    private static final int NO_GAIN = NONE - 999999;
    private static final int NO_SUM = NONE - 99999999;
    private static final String GAIN = "GAIN of a POLE from MONTH a to b (any two, b perhaps ahead of a), if it has READINGS of both:";
    private static final String LOW = "LOW with the least of b and the greatest of a, HIGH the other way.";
    private static final String VALUE = "VALUE LOW of a BAND: the mean of the LOW ones of its POLES with a GAIN, downwards; HIGH: of the HIGH ones, upwards;";
    private static final String NEAREST = "of a BAND without: that of the nearest BAND that has one (of two the lower BAND).";
    private static final String SUM = "SUM from a to b as known: over BANDS with CELLS that have ICE now: how many such CELLS, times VALUE.";
    private static final String DOUBT = "DOUBT: the least LOW and the greatest HIGH of all SUMS with one of these POLES left out (there must be two at least).";
    private static final String NEXT = "NEXT: the BAND with ICE in which a POLE is missed most:"
        + " the most CELLS with ICE times how many BANDS the nearest one with a GAIN is away; of several the lowest.";
    private static final String NONE_24 = "NONE - 99999999: none has (for 4: 0), fewer than two for 2, 3, one can't be, or another what.";

    public static void main(String[] args) throws Exception {
        run(BalanceBoundaryTests.class);
    }

    /** A POLE with a GAIN of 9 times so much from MONTH 0 to MONTH 1, LOW as HIGH. */
    private static int plain(IceHouse x, int cell, int gain) {
        int pole = x.pole(cell);
        yes(x.read(pole, 0, 500, 0, 5));
        yes(x.read(pole, 1, 500 - gain, 0, 5));
        return pole;
    }

    /** CELL 6 b stands in BAND b, at its foot; all others in BAND 0. */
    private static IceHouse bands() {
        IceHouse x = new IceHouse();
        for (int band = 1; band < 10; band++) {
            x.set(6 * band, 0, 100 * band);
        }
        return x;
    }

    // ---- promise 22

    private static IceHouse twelvePoles() {
        IceHouse x = new IceHouse();
        for (int k = 0; k < 12; k++) {
            x.pole(k);
        }
        x.read(0, 0, 100, 0, 5);
        x.read(0, 359, 90, 0, 5);
        x.read(0, 7, 80, 0, 5);
        x.read(11, 0, 70, 0, 5);
        x.read(11, 7, 60, 0, 5);
        x.read(3, 0, 1, 1, 5);
        x.read(4, 7, 1, 1, 5);
        return x;
    }

    static void promise22ArgumentsAtTheirEnds() {
        sentence("GAIN of a POLE as known: what 0 LOW, 1 HIGH. NONE - 999999: it has none, one can't be, or another what.");
        IceHouse x = twelvePoles();
        asks(0, 11, NO_GAIN, pole -> x.gain(pole, 0, 7, 5, 0));
        asks(0, 359, NO_GAIN, a -> x.gain(0, a, 7, 5, 0));
        asks(0, 359, NO_GAIN, b -> x.gain(0, 7, b, 5, 0));
        asks(5, 9999, NO_GAIN, day -> x.gain(0, 0, 7, day, 0));
        asks(0, 1, NO_GAIN, what -> x.gain(0, 0, 7, 5, what));
        due(x.gain(0, 0, 7, -1, 0), NO_GAIN);
        due(x.gain(0, 0, 7, 10000, 0), NO_GAIN);
        due(x.gain(0, 359, 7, 5, 0), 90);
        due(x.gain(11, 0, 7, 5, 0), 90);
        due(x.gain(0, 0, 359, 5, 1), 90);
    }

    static void promise22ReadingsOfBoth() {
        sentence("if it has READINGS of both:");
        IceHouse x = twelvePoles();
        due(x.gain(3, 0, 7, 5, 0), NO_GAIN);
        due(x.gain(3, 7, 0, 5, 0), NO_GAIN);
        due(x.gain(4, 0, 7, 5, 0), NO_GAIN);
        due(x.gain(4, 7, 0, 5, 1), NO_GAIN);
        due(x.gain(5, 0, 7, 5, 0), NO_GAIN);
        x.read(3, 7, 1, 1, 6);
        due(x.gain(3, 0, 7, 5, 0), NO_GAIN);
        due(x.gain(3, 0, 7, 6, 0), 2 - 6);
        due(x.gain(3, 0, 7, 6, 1), 6 - 2);
    }

    static void promise22AnyTwoMonths() {
        sentence(GAIN);
        IceHouse x = twelvePoles();
        due(x.gain(0, 0, 7, 5, 0), 180);
        due(x.gain(0, 7, 0, 5, 0), -180);
        due(x.gain(0, 7, 7, 5, 0), 0);
        due(x.gain(3, 0, 0, 5, 0), -4);
        due(x.gain(3, 0, 0, 5, 1), 4);
        due(x.gain(5, 0, 0, 5, 1), NO_GAIN);
    }

    static void promise22TheGreatestAndTheLeastGain() {
        sentence(LOW);
        IceHouse x = new IceHouse();
        x.pole(0);
        x.read(0, 0, 999, 0, 0);
        x.read(0, 359, 0, 999, 0);
        due(x.gain(0, 0, 359, 0, 0), 9 * 999 + 2 * 999);
        due(x.gain(0, 0, 359, 0, 1), 9 * 999 + 6 * 999);
        x.pit(0, 359, 9, 1);
        x.pit(59, 359, 1, 1);
        x.pit(1, 0, 4, 1);
        due(x.gain(0, 0, 359, 1, 0), 9 * 999 + 999);
        due(x.gain(0, 0, 359, 1, 1), 9 * 999 + 9 * 999);
        due(x.gain(0, 359, 0, 1, 0), -18 * 999);
        due(x.gain(0, 359, 0, 1, 1), -10 * 999);
        due(x.gain(0, 359, 359, 1, 0), -8 * 999);
        due(x.gain(0, 359, 359, 1, 1), 8 * 999);
        due(x.gain(0, 0, 359, 0, 1), 15 * 999);
    }

    static void promise22WeightsOfEachMonth() {
        sentence("DEEP of b times its WEIGHT less DEEP of a times its WEIGHT");
        IceHouse x = new IceHouse();
        x.pole(0);
        x.read(0, 3, 50, 10, 0);
        x.read(0, 4, 50, 100, 0);
        due(x.gain(0, 3, 4, 0, 0), 200 - 60);
        due(x.gain(0, 3, 4, 0, 1), 600 - 20);
        x.pit(0, 3, 4, 1);
        due(x.gain(0, 3, 4, 1, 0), 200 - 40);
        due(x.gain(0, 3, 4, 1, 1), 600 - 40);
        x.pit(59, 4, 5, 2);
        due(x.gain(0, 3, 4, 2, 0), 500 - 40);
        due(x.gain(0, 3, 4, 2, 1), 500 - 40);
        x.pit(58, 3, 3, 3);
        due(x.gain(0, 3, 4, 3, 0), 500 - 40);
        due(x.gain(0, 3, 4, 3, 1), 500 - 30);
        due(x.gain(0, 3, 4, 2, 1), 500 - 40);
        x.set(0, 0, 100);
        due(x.gain(0, 3, 4, 3, 0), 200 - 40);
        due(x.gain(0, 3, 4, 3, 1), 600 - 40);
    }

    static void promise22AsKnown() {
        sentence("the latest told by then.");
        IceHouse x = new IceHouse();
        x.pole(0);
        x.read(0, 0, 100, 0, 2);
        x.read(0, 1, 90, 0, 3);
        x.read(0, 1, 80, 0, 3);
        x.read(0, 0, 101, 0, 5);
        due(x.gain(0, 0, 1, 2, 0), NO_GAIN);
        due(x.gain(0, 0, 1, 3, 0), 180);
        due(x.gain(0, 0, 1, 4, 0), 180);
        due(x.gain(0, 0, 1, 5, 0), 189);
        due(x.gain(0, 0, 1, 9999, 0), 189);
    }

    // ---- promise 23

    static void promise23ArgumentsAtTheirEnds() {
        sentence("what 0 LOW, 1 HIGH, 2 the BAND from which it has it. NONE - 999999: no POLE has a GAIN, one can't be, or another what.");
        IceHouse x = twelvePoles();
        asks(0, 9, NO_GAIN, band -> x.value(band, 0, 7, 5, 0));
        asks(0, 359, NO_GAIN, a -> x.value(0, a, 7, 5, 0));
        asks(0, 359, NO_GAIN, b -> x.value(0, 7, b, 5, 1));
        asks(5, 9999, NO_GAIN, day -> x.value(0, 0, 7, day, 2));
        asks(0, 2, NO_GAIN, what -> x.value(0, 0, 7, 5, what));
        due(x.value(0, 0, 7, -1, 0), NO_GAIN);
        due(x.value(0, 0, 7, 10000, 0), NO_GAIN);
    }

    static void promise23BandsFrom0To9() {
        sentence("BAND: GROUND by 100, downwards (0 .. 9).");
        for (int only = 0; only < 10; only++) {
            IceHouse x = bands();
            plain(x, 6 * only, 1);
            for (int what = 0; what < 3; what++) {
                int asked = what;
                asks(0, 9, NO_GAIN, band -> x.value(band, 0, 1, 5, asked));
            }
        }
    }

    static void promise23NoPoleHasAGain() {
        sentence("no POLE has a GAIN");
        IceHouse x = new IceHouse();
        due(x.value(0, 0, 1, 5, 2), NO_GAIN);
        x.pole(0);
        due(x.value(0, 0, 1, 5, 2), NO_GAIN);
        x.read(0, 0, 5, 0, 5);
        due(x.value(0, 0, 1, 5, 2), NO_GAIN);
        due(x.value(0, 1, 0, 5, 0), NO_GAIN);
        due(x.value(0, 0, 0, 5, 0), 0);
        x.read(0, 1, 5, 0, 6);
        due(x.value(0, 0, 1, 5, 1), NO_GAIN);
        due(x.value(0, 0, 1, 6, 1), 0);
        due(x.value(9, 0, 1, 6, 2), 0);
    }

    static void promise23MeanDownwardsAndUpwards() {
        sentence(VALUE);
        int[][] gainsLowHigh = {{1, 2, 13, 14}, {-1, -2, -14, -13}, {1, -2, -5, -4}, {-1, 2, 4, 5}, {1, 3, 18, 18}, {-1, -3, -18, -18},
            {0, 0, 0, 0}, {1, 0, 4, 5}, {0, -1, -5, -4}};
        for (int[] g : gainsLowHigh) {
            IceHouse x = new IceHouse();
            plain(x, 0, g[0]);
            plain(x, 59, g[1]);
            due(x.value(0, 0, 1, 5, 0), g[2]);
            due(x.value(0, 0, 1, 5, 1), g[3]);
        }
    }

    static void promise23MeanOfOneAndOfTwelve() {
        sentence("the mean of the LOW ones of its POLES with a GAIN, downwards; HIGH: of the HIGH ones, upwards;");
        IceHouse x = new IceHouse();
        for (int k = 1; k <= 12; k++) {
            plain(x, k, k);
            int sum = 9 * k * (k + 1) / 2;
            due(x.value(0, 0, 1, 5, 0), sum / k);
            due(x.value(0, 0, 1, 5, 1), (sum + k - 1) / k);
        }
        IceHouse y = new IceHouse();
        y.pole(0);
        y.pole(1);
        y.read(0, 0, 10, 1, 0);
        y.read(0, 1, 10, 2, 0);
        y.read(1, 0, 10, 2, 0);
        y.read(1, 1, 10, 1, 0);
        y.pit(0, 0, 1, 0);
        y.pit(1, 0, 4, 0);
        due(y.gain(0, 0, 1, 0, 0), 0);
        due(y.gain(1, 0, 1, 0, 0), -6);
        due(y.gain(0, 0, 1, 0, 1), 11);
        due(y.gain(1, 0, 1, 0, 1), 4);
        due(y.value(0, 0, 1, 0, 0), -3);
        due(y.value(0, 0, 1, 0, 1), 8);
    }

    static void promise23OfTheNearestBand() {
        sentence(NEAREST);
        for (int only = 0; only < 10; only++) {
            IceHouse x = bands();
            plain(x, 6 * only, only);
            for (int band = 0; band < 10; band++) {
                due(x.value(band, 0, 1, 5, 2), only);
                due(x.value(band, 0, 1, 5, 0), 9 * only);
            }
        }
    }

    static void promise23OfTwoTheLowerBand() {
        sentence("(of two the lower BAND)");
        for (int low = 0; low < 9; low++) {
            for (int high = low + 1; high < 10; high++) {
                IceHouse x = bands();
                plain(x, 6 * high, 20);
                plain(x, 6 * low, 10);
                for (int band = 0; band < 10; band++) {
                    int due = Math.abs(high - band) < Math.abs(band - low) ? high : low;
                    due(x.value(band, 0, 1, 5, 2), due);
                    due(x.value(band, 0, 1, 5, 1), due == high ? 180 : 90);
                }
            }
        }
    }

    static void promise23BandsByGround() {
        sentence("BAND: GROUND by 100, downwards (0 .. 9).");
        IceHouse x = new IceHouse();
        plain(x, 0, 4);
        plain(x, 59, 8);
        due(x.value(0, 0, 1, 5, 0), 54);
        x.set(59, 0, 99);
        due(x.value(0, 0, 1, 5, 0), 54);
        x.set(59, 0, 100);
        due(x.value(0, 0, 1, 5, 0), 36);
        due(x.value(1, 0, 1, 5, 0), 72);
        x.set(59, 3, 300);
        due(x.value(4, 0, 1, 5, 2), 1);
        x.set(59, 0, 900);
        due(x.value(9, 0, 1, 5, 0), 72);
        due(x.value(5, 0, 1, 5, 2), 9);
        due(x.value(4, 0, 1, 5, 2), 0);
    }

    static void promise23AsKnown() {
        sentence("VALUE of a BAND as known");
        IceHouse x = bands();
        plain(x, 0, 1);
        x.pole(30);
        x.read(1, 0, 50, 0, 6);
        x.read(1, 1, 40, 0, 7);
        due(x.value(5, 0, 1, 4, 2), NO_GAIN);
        due(x.value(5, 0, 1, 6, 2), 0);
        due(x.value(5, 0, 1, 7, 2), 5);
        due(x.value(5, 0, 1, 7, 0), 90);
    }

    // ---- promise 24

    static void promise24ArgumentsAtTheirEnds() {
        sentence(NONE_24);
        IceHouse x = twelvePoles();
        for (int what : new int[] {0, 1, 4}) {
            asks(0, 359, NO_SUM, a -> x.sum(a, 7, 5, what));
            asks(0, 359, NO_SUM, b -> x.sum(7, b, 5, what));
            asks(what == 4 ? 0 : 5, 9999, NO_SUM, day -> x.sum(0, 7, day, what));
        }
        asks(0, 4, NO_SUM, what -> x.sum(0, 7, 5, what));
        for (int what = 0; what < 5; what++) {
            due(x.sum(0, 7, -1, what), NO_SUM);
            due(x.sum(0, 7, 10000, what), NO_SUM);
            due(x.sum(-1, 7, 5, what), NO_SUM);
            due(x.sum(0, 360, 5, what), NO_SUM);
        }
    }

    static void promise24NoneHasAGain() {
        sentence("none has (for 4: 0)");
        IceHouse x = new IceHouse();
        x.set(0, 3, 1);
        long[] due = {NO_SUM, NO_SUM, NO_SUM, NO_SUM, 0};
        for (int what = 0; what < 5; what++) {
            due(x.sum(0, 1, 5, what), due[what]);
        }
        x.pole(0);
        x.read(0, 0, 5, 0, 5);
        for (int what = 0; what < 5; what++) {
            due(x.sum(0, 1, 5, what), due[what]);
            due(x.sum(1, 0, 5, what), due[what]);
        }
        due(x.sum(0, 0, 5, 4), 1);
    }

    static void promise24FewerThanTwo() {
        sentence("fewer than two for 2, 3");
        IceHouse x = new IceHouse();
        x.set(0, 3, 1);
        plain(x, 0, 3);
        due(x.sum(0, 1, 5, 0), 27);
        due(x.sum(0, 1, 5, 1), 27);
        due(x.sum(0, 1, 5, 2), NO_SUM);
        due(x.sum(0, 1, 5, 3), NO_SUM);
        due(x.sum(0, 1, 5, 4), 1);
        plain(x, 0, 5);
        due(x.sum(0, 1, 5, 0), 36);
        due(x.sum(0, 1, 5, 2), 27);
        due(x.sum(0, 1, 5, 3), 45);
        due(x.sum(0, 1, 5, 4), 2);
    }

    static void promise24FromOneToTwelvePoles() {
        sentence("4 how many POLES have a GAIN.");
        IceHouse x = new IceHouse();
        x.set(59, 3, 2);
        for (int k = 1; k <= 12; k++) {
            plain(x, k, 12 - k);
            due(x.sum(0, 1, 5, 4), k);
        }
        due(x.sum(0, 1, 5, 0), 9 * 66 / 12);
        due(x.sum(0, 1, 5, 1), 9 * 66 / 12 + 1);
        due(x.sum(0, 1, 5, 2), 9 * 55 / 11);
        due(x.sum(0, 1, 5, 3), 9 * 66 / 11);
        IceHouse y = new IceHouse();
        y.set(59, 3, 2);
        for (int k = 0; k < 12; k++) {
            plain(y, k, k);
        }
        due(y.sum(0, 1, 5, 2), 9 * 55 / 11);
        due(y.sum(0, 1, 5, 3), 9 * 66 / 11);
    }

    static void promise24CellsWithIceNow() {
        sentence(SUM);
        IceHouse x = new IceHouse();
        plain(x, 0, 7);
        due(x.sum(0, 1, 5, 0), 0);
        due(x.sum(0, 1, 5, 1), 0);
        for (int cell = 0; cell < 60; cell++) {
            x.set(cell, 3, 1 + cell * 5);
        }
        due(x.sum(0, 1, 5, 0), 60 * 63);
        x.set(59, 3, 0);
        due(x.sum(0, 1, 5, 0), 59 * 63);
        for (int cell = 1; cell < 59; cell++) {
            x.set(cell, 3, 0);
        }
        due(x.sum(0, 1, 5, 1), 63);
        Checks.law(x, "ice 1;");
        x.work(1);
        due(x.of(0, 4), 99);
        due(x.sum(0, 1, 5, 0), 0);
        due(x.sum(0, 1, 5, 4), 1);
    }

    static void promise24OverAllBands() {
        sentence("over BANDS with CELLS that have ICE now");
        IceHouse x = bands();
        plain(x, 0, -3);
        plain(x, 54, 4);
        int due = 0;
        for (int band = 0; band < 10; band++) {
            x.set(6 * band, 3, 1);
            due += band < 5 ? -27 : 36;
            due(x.sum(0, 1, 5, 0), due);
            due(x.sum(0, 1, 5, 1), due);
        }
        due(x.sum(0, 1, 5, 2), -270);
        due(x.sum(0, 1, 5, 3), 360);
        x.set(0, 3, 0);
        due(x.sum(0, 1, 5, 0), due + 27);
    }

    static void promise24DoubtOfTwoInOneBandAndInTwo() {
        sentence(DOUBT);
        IceHouse x = bands();
        x.set(0, 3, 1);
        x.set(54, 3, 1);
        plain(x, 0, 2);
        plain(x, 54, 6);
        due(x.sum(0, 1, 5, 0), 72);
        due(x.sum(0, 1, 5, 2), 36);
        due(x.sum(0, 1, 5, 3), 108);
        plain(x, 0, 4);
        due(x.sum(0, 1, 5, 0), 27 + 54);
        due(x.sum(0, 1, 5, 2), 27 + 27);
        due(x.sum(0, 1, 5, 3), 36 + 54);
    }

    static void promise24DoubtOfLowAndOfHigh() {
        sentence("the least LOW and the greatest HIGH of all SUMS");
        IceHouse x = new IceHouse();
        x.set(0, 3, 1);
        x.pole(0);
        x.pole(1);
        x.read(0, 0, 50, 0, 0);
        x.read(0, 1, 50, 10, 0);
        x.read(1, 0, 50, 10, 0);
        x.read(1, 1, 50, 0, 0);
        due(x.gain(0, 0, 1, 0, 0), 20);
        due(x.gain(0, 0, 1, 0, 1), 60);
        due(x.gain(1, 0, 1, 0, 0), -60);
        due(x.gain(1, 0, 1, 0, 1), -20);
        due(x.sum(0, 1, 0, 0), -20);
        due(x.sum(0, 1, 0, 1), 20);
        due(x.sum(0, 1, 0, 2), -60);
        due(x.sum(0, 1, 0, 3), 60);
        due(x.sum(0, 1, 0, 0), -20);
        due(x.value(0, 0, 1, 0, 1), 20);
    }

    static void promise24TheGreatestSum() {
        sentence("how many such CELLS, times VALUE.");
        IceHouse x = new IceHouse();
        for (int cell = 0; cell < 60; cell++) {
            x.set(cell, 3, 300);
        }
        x.pole(0);
        x.pit(0, 1, 9, 0);
        x.read(0, 0, 999, 0, 0);
        x.read(0, 1, 0, 999, 0);
        due(x.sum(0, 1, 0, 0), 60 * 18 * 999);
        due(x.sum(1, 0, 0, 1), -60 * 18 * 999);
        due(x.sum(0, 1, 0, 1), 60 * 18 * 999);
    }

    static void promise24AsKnown() {
        sentence("SUM as known");
        IceHouse x = new IceHouse();
        x.set(0, 3, 1);
        plain(x, 0, 3);
        x.pole(1);
        x.read(1, 0, 9, 0, 6);
        x.read(1, 1, 8, 0, 7);
        due(x.sum(0, 1, 4, 4), 0);
        due(x.sum(0, 1, 4, 0), NO_SUM);
        due(x.sum(0, 1, 6, 4), 1);
        due(x.sum(0, 1, 6, 2), NO_SUM);
        due(x.sum(0, 1, 7, 4), 2);
        due(x.sum(0, 1, 7, 2), 9);
    }

    // ---- promise 25

    static void promise25ArgumentsAtTheirEnds() {
        sentence("NEXT as known; NONE if there is none, no POLE has a GAIN, or one can't be.");
        IceHouse x = twelvePoles();
        x.set(59, 0, 900);
        x.set(59, 3, 1);
        asks(0, 359, NONE, a -> x.next(a, 7, 5));
        asks(0, 359, NONE, b -> x.next(7, b, 5));
        asks(5, 9999, NONE, day -> x.next(0, 7, day));
        due(x.next(0, 7, -1), NONE);
        due(x.next(0, 7, 10000), NONE);
        due(x.next(0, 7, 5), 9);
    }

    static void promise25NoPoleHasAGain() {
        sentence("no POLE has a GAIN");
        IceHouse x = new IceHouse();
        x.set(59, 0, 900);
        x.set(59, 3, 1);
        due(x.next(0, 1, 5), NONE);
        x.pole(0);
        x.read(0, 0, 5, 5, 5);
        due(x.next(0, 1, 5), NONE);
        due(x.next(1, 0, 5), NONE);
        due(x.next(0, 0, 5), 9);
    }

    static void promise25NoneIfItIs0() {
        sentence("(None, if it is 0.)");
        IceHouse x = bands();
        plain(x, 0, 1);
        due(x.next(0, 1, 5), NONE);
        for (int cell = 0; cell < 6; cell++) {
            x.set(cell, 3, 300);
        }
        due(x.next(0, 1, 5), NONE);
        x.set(6, 3, 1);
        due(x.next(0, 1, 5), 1);
        plain(x, 6, 1);
        due(x.next(0, 1, 5), NONE);
        x.set(6, 3, 0);
        due(x.next(0, 1, 5), NONE);
    }

    static void promise25OneCellInEachBand() {
        sentence(NEXT);
        for (int pole = 0; pole < 10; pole++) {
            IceHouse x = bands();
            plain(x, 6 * pole, 1);
            for (int band = 0; band < 10; band++) {
                x.set(6 * band, 3, 1);
            }
            due(x.next(0, 1, 5), 9 - pole > pole ? 9 : 0);
        }
    }

    static void promise25OfSeveralTheLowest() {
        sentence("of several the lowest.");
        IceHouse x = bands();
        plain(x, 30, 1);
        x.set(54, 3, 1);
        due(x.next(0, 1, 5), 9);
        x.set(6, 3, 1);
        due(x.next(0, 1, 5), 1);
        x.set(18, 3, 1);
        x.set(19, 0, 300);
        x.set(19, 3, 1);
        due(x.next(0, 1, 5), 1);
        x.set(6, 3, 0);
        due(x.next(0, 1, 5), 3);
        x.set(18, 3, 0);
        due(x.next(0, 1, 5), 9);
        x.set(55, 0, 999 - 100);
        x.set(55, 3, 1);
        due(x.next(0, 1, 5), 9);
        x.set(0, 3, 1);
        due(x.next(0, 1, 5), 0);
    }

    static void promise25CellsTimesBands() {
        sentence("the most CELLS with ICE times how many BANDS the nearest one with a GAIN is away");
        IceHouse x = bands();
        plain(x, 0, 1);
        x.set(54, 3, 300);
        for (int cell = 41; cell < 50; cell++) {
            if (cell != 42 && cell != 48) {
                x.set(cell, 0, 150);
                x.set(cell, 3, 1);
            }
        }
        due(x.next(0, 1, 5), 9);
        x.set(50, 0, 199);
        x.set(50, 3, 1);
        due(x.next(0, 1, 5), 9);
        x.set(51, 0, 100);
        x.set(51, 3, 1);
        due(x.next(0, 1, 5), 1);
        x.set(55, 0, 900);
        x.set(55, 3, 1);
        due(x.next(0, 1, 5), 9);
    }

    static void promise25TheNearestOfTwo() {
        sentence("the nearest one with a GAIN");
        IceHouse x = bands();
        plain(x, 0, 1);
        plain(x, 54, 1);
        for (int band = 0; band < 10; band++) {
            x.set(6 * band, 3, 1);
        }
        due(x.next(0, 1, 5), 4);
        plain(x, 24, 1);
        due(x.next(0, 1, 5), 2);
        plain(x, 12, 1);
        due(x.next(0, 1, 5), 6);
    }
}
