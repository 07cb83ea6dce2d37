/** The edges of promises 14 to 21: POLES and TELLINGS, and what of these is known on a DAY. */
final class TellingBoundaryTests extends Boundary {
    private static final int NONE = IceHouse.NONE;
    private static final String CELLS = "CELLS 0 .. 59: x 0 .. 9, y 0 .. 5, CELL 10 y + x.";
    private static final String MONTHS = "MONTHS t 0 .. 359";
    private static final String DAYS = "TELLINGS have a DAY (0 .. 9999, never below the one of the telling ahead)";
    private static final String READINGS = "READINGS of a POLE in a MONTH (t): FREE and DEEP (0 .. 999 each)";
    private static final String ALL_400 = "400 in all (POLES do not count).";
    private static final String KNOWN = "of each POLE and MONTH, CELL and MONTH, MONTH, MAP and CELL the latest told by then.";
    private static final String WEIGHTS = "of PITS as known in that MONTH at CELLS of the POLE's BAND the least and the greatest; without any 2 and 6.";

    /** A telling of one kind on a day. */
    private interface Told {
        boolean on(IceHouse x, int day);
    }

    private static final Told READ = (x, day) -> x.read(0, 0, 1, 2, day);
    private static final Told PIT = (x, day) -> x.pit(0, 0, 3, day);
    private static final Told GAUGE = (x, day) -> x.gauge(0, 4, day);
    private static final Told MAP = (x, day) -> x.map(0, 0, 5, day);
    private static final Told[] KINDS = {READ, PIT, GAUGE, MAP};

    public static void main(String[] args) throws Exception {
        run(TellingBoundaryTests.class);
    }

    private static IceHouse onePole() {
        IceHouse x = new IceHouse();
        due(x.pole(0), 0);
        return x;
    }

    private static void daysFrom0To9999(Told told) {
        IceHouse x = onePole();
        edges(x, 0, 9999, day -> told.on(x, day));
        no(told.on(x, 9998));
        no(told.on(x, 10000));
        yes(told.on(x, 9999));
        due(x.look(7), 3);
    }

    private static void neverBelowTheOneAhead(Told told) {
        for (Told ahead : KINDS) {
            IceHouse x = onePole();
            yes(ahead.on(x, 50));
            no(told.on(x, 49));
            no(told.on(x, 0));
            yes(told.on(x, 50));
            yes(told.on(x, 51));
            no(ahead.on(x, 50));
            yes(ahead.on(x, 51));
            due(x.look(7), 4);
        }
    }

    private static void aDayThatWasRefusedIsNoneAhead(Told refused) {
        IceHouse x = onePole();
        no(refused.on(x, 9999));
        due(x.look(7), 0);
        for (Told told : KINDS) {
            yes(told.on(x, 5));
            no(refused.on(x, 6));
        }
        due(x.look(7), 4);
    }

    /** What is known then: FREE, DEEP, the two WEIGHTS, the GAUGE and the height. */
    private static void the400th(Told told, int... then) {
        IceHouse x = onePole();
        x.read(0, 0, 8, 9, 3);
        for (int k = 1; k < 399; k++) {
            x.gauge(k % 360, k, 3);
        }
        due(x.look(7), 399);
        yes(told.on(x, 8));
        long[] stood = known(x);
        due(stood[0], 400);
        for (int i = 0; i < then.length; i++) {
            due(stood[i + 1], then[i]);
        }
        for (Told more : KINDS) {
            no(more.on(x, 8));
            no(more.on(x, 9));
        }
        long[] stands = known(x);
        for (int i = 0; i < stood.length; i++) {
            due(stands[i], stood[i]);
        }
        due(stands[0], 400);
        due(x.pole(59), 1);
        due(x.look(8), 2);
    }

    /** What is known of the places that the four kinds tell of. */
    private static long[] known(IceHouse x) {
        return new long[] {x.look(7), x.reading(0, 0, 9, 0), x.reading(0, 0, 9, 1), x.reading(0, 0, 9, 2), x.reading(0, 0, 9, 3),
            x.gauged(0, 9), x.mapped(0, 0, 9)};
    }

    // ---- promise 14

    static void promise14CellsFrom0To59() {
        sentence(CELLS);
        IceHouse x = new IceHouse();
        for (int cell : new int[] {Integer.MIN_VALUE, -1, 60, Integer.MAX_VALUE}) {
            due(x.pole(cell), NONE);
        }
        due(x.look(8), 0);
        due(x.pole(0), 0);
        due(x.pole(60), NONE);
        due(x.pole(59), 1);
        due(x.look(8), 2);
    }

    static void promise14TwelvePoles() {
        sentence("A POLE: its number; NONE, and nothing is done, if one can't be, or there are 12.");
        IceHouse x = new IceHouse();
        for (int k = 0; k < 12; k++) {
            no(x.read(k, 0, 1, 1, 0));
            due(x.look(8), k);
            due(x.pole(5 * k), k);
            yes(x.read(k, 0, 1, 1, 0));
        }
        long[] stood = shot(x);
        due(x.pole(59), NONE);
        due(x.pole(0), NONE);
        due(x.pole(-1), NONE);
        stands(x, stood);
        no(x.read(12, 0, 1, 1, 0));
        due(x.look(8), 12);
        due(x.look(7), 12);
    }

    static void promise14TheTwelfthStandsWhereItWasPut() {
        sentence("POLES 0 .. 11 on CELLS");
        IceHouse x = new IceHouse();
        x.set(59, 0, 900);
        for (int k = 0; k < 12; k++) {
            x.pole(k < 11 ? 0 : 59);
        }
        x.pole(0);
        yes(x.pit(59, 0, 9, 0));
        yes(x.read(11, 0, 1, 1, 0));
        yes(x.read(0, 0, 1, 1, 0));
        due(x.reading(11, 0, 0, 2), 9);
        due(x.reading(0, 0, 0, 2), 2);
    }

    static void promise14PolesAreNoTellings() {
        sentence(ALL_400);
        IceHouse x = new IceHouse();
        for (int k = 0; k < 400; k++) {
            yes(x.gauge(0, 0, 0));
        }
        for (int k = 0; k < 12; k++) {
            due(x.pole(k), k);
        }
        due(x.pole(12), NONE);
        due(x.look(7), 400);
        due(x.look(8), 12);
    }

    // ---- promise 15

    static void promise15PolesThatAreThere() {
        sentence("A READING: true; false, and nothing is done, if one can't be, or there are 400.");
        IceHouse x = new IceHouse();
        no(x.read(0, 0, 0, 0, 0));
        x.pole(0);
        edges(x, 0, 0, pole -> x.read(pole, 0, 1, 1, 0));
        x.pole(0);
        edges(x, 0, 1, pole -> x.read(pole, 0, 1, 1, 0));
        due(x.look(7), 4);
    }

    static void promise15MonthsFrom0To359() {
        sentence(MONTHS);
        IceHouse x = onePole();
        edges(x, 0, 359, t -> x.read(0, t, 6, 7, 0));
        due(x.reading(0, 0, 0, 0), 6);
        due(x.reading(0, 359, 0, 1), 7);
        due(x.reading(0, 1, 0, 0), NONE);
        due(x.reading(0, 358, 0, 0), NONE);
    }

    static void promise15FreeFrom0To999() {
        sentence(READINGS);
        IceHouse x = onePole();
        edges(x, 0, 999, free -> x.read(0, 0, free, 7, 0));
        due(x.reading(0, 0, 0, 0), 999);
        yes(x.read(0, 0, 0, 7, 0));
        due(x.reading(0, 0, 0, 0), 0);
        no(x.read(0, 0, 1000, 7, 0));
        due(x.reading(0, 0, 0, 0), 0);
    }

    static void promise15DeepFrom0To999() {
        sentence(READINGS);
        IceHouse x = onePole();
        edges(x, 0, 999, deep -> x.read(0, 0, 7, deep, 0));
        due(x.reading(0, 0, 0, 1), 999);
        yes(x.read(0, 0, 7, 0, 0));
        due(x.reading(0, 0, 0, 1), 0);
        no(x.read(0, 0, 7, 1000, 0));
        due(x.reading(0, 0, 0, 1), 0);
    }

    static void promise15Days() {
        sentence(DAYS);
        daysFrom0To9999(READ);
        neverBelowTheOneAhead(READ);
        aDayThatWasRefusedIsNoneAhead((x, day) -> x.read(0, 0, 1000, 0, day));
        aDayThatWasRefusedIsNoneAhead((x, day) -> x.read(0, 0, 0, -1, day));
        aDayThatWasRefusedIsNoneAhead((x, day) -> x.read(1, 0, 0, 0, day));
        aDayThatWasRefusedIsNoneAhead((x, day) -> x.read(0, 360, 0, 0, day));
    }

    static void promise15The400th() {
        sentence(ALL_400);
        the400th(READ, 1, 2, 2, 6, 360, NONE);
    }

    // ---- promise 16

    static void promise16CellsFrom0To59() {
        sentence(CELLS);
        IceHouse x = onePole();
        edges(x, 0, 59, cell -> x.pit(cell, 0, 4, 0));
        due(x.look(7), 2);
    }

    static void promise16MonthsFrom0To359() {
        sentence(MONTHS);
        IceHouse x = onePole();
        edges(x, 0, 359, t -> x.pit(0, t, 4, 0));
        x.read(0, 0, 1, 1, 0);
        x.read(0, 1, 1, 1, 0);
        x.read(0, 359, 1, 1, 0);
        due(x.reading(0, 0, 0, 2), 4);
        due(x.reading(0, 1, 0, 2), 2);
        due(x.reading(0, 359, 0, 3), 4);
    }

    static void promise16WeightFrom1To9() {
        sentence("PITS at a CELL in a MONTH: WEIGHT (1 .. 9)");
        IceHouse x = onePole();
        x.read(0, 0, 1, 1, 0);
        edges(x, 1, 9, weight -> x.pit(0, 0, weight, 0));
        due(x.reading(0, 0, 0, 2), 9);
        due(x.reading(0, 0, 0, 3), 9);
        yes(x.pit(0, 0, 1, 0));
        due(x.reading(0, 0, 0, 2), 1);
        due(x.reading(0, 0, 0, 3), 1);
        no(x.pit(0, 0, 0, 0));
        no(x.pit(0, 0, 10, 0));
        due(x.reading(0, 0, 0, 3), 1);
    }

    static void promise16Days() {
        sentence(DAYS);
        daysFrom0To9999(PIT);
        neverBelowTheOneAhead(PIT);
        aDayThatWasRefusedIsNoneAhead((x, day) -> x.pit(60, 0, 1, day));
        aDayThatWasRefusedIsNoneAhead((x, day) -> x.pit(0, 0, 10, day));
        aDayThatWasRefusedIsNoneAhead((x, day) -> x.pit(0, 360, 1, day));
    }

    static void promise16The400th() {
        sentence("A PIT: likewise.");
        the400th(PIT, 8, 9, 3, 3, 360, NONE);
    }

    // ---- promise 17

    static void promise17MonthsFrom0To359() {
        sentence(MONTHS);
        IceHouse x = onePole();
        edges(x, 0, 359, t -> x.gauge(t, 8, 0));
        due(x.gauged(0, 0), 8);
        due(x.gauged(359, 0), 8);
        due(x.gauged(1, 0), NONE);
        due(x.gauged(358, 0), NONE);
    }

    static void promise17RanFrom0To9999999() {
        sentence("GAUGES of a MONTH: what ran (0 .. 9999999)");
        IceHouse x = onePole();
        edges(x, 0, 9999999, ran -> x.gauge(0, ran, 0));
        due(x.gauged(0, 0), 9999999);
        yes(x.gauge(0, 0, 0));
        due(x.gauged(0, 0), 0);
        no(x.gauge(0, 10000000, 0));
        no(x.gauge(0, -1, 0));
        due(x.gauged(0, 0), 0);
    }

    static void promise17Days() {
        sentence(DAYS);
        daysFrom0To9999(GAUGE);
        neverBelowTheOneAhead(GAUGE);
        aDayThatWasRefusedIsNoneAhead((x, day) -> x.gauge(-1, 0, day));
        aDayThatWasRefusedIsNoneAhead((x, day) -> x.gauge(0, 10000000, day));
    }

    static void promise17The400th() {
        sentence("A GAUGE: likewise.");
        the400th(GAUGE, 8, 9, 2, 6, 4, NONE);
    }

    // ---- promise 18

    static void promise18MapsFrom0To2() {
        sentence("MAPS 0 .. 2: the height (0 .. 1200) of a CELL.");
        IceHouse x = onePole();
        edges(x, 0, 2, k -> x.map(k, 59, 70, 0));
        due(x.mapped(0, 59, 0), 70);
        due(x.mapped(1, 59, 0), NONE);
        due(x.mapped(2, 59, 0), 70);
    }

    static void promise18CellsFrom0To59() {
        sentence(CELLS);
        IceHouse x = onePole();
        edges(x, 0, 59, cell -> x.map(2, cell, 70, 0));
        due(x.mapped(2, 0, 0), 70);
        due(x.mapped(2, 59, 0), 70);
        due(x.mapped(2, 1, 0), NONE);
        due(x.mapped(2, 58, 0), NONE);
    }

    static void promise18HeightFrom0To1200() {
        sentence("the height (0 .. 1200) of a CELL.");
        IceHouse x = onePole();
        edges(x, 0, 1200, height -> x.map(0, 0, height, 0));
        due(x.mapped(0, 0, 0), 1200);
        yes(x.map(0, 0, 0, 0));
        due(x.mapped(0, 0, 0), 0);
        no(x.map(0, 0, 1201, 0));
        no(x.map(0, 0, -1, 0));
        due(x.mapped(0, 0, 0), 0);
    }

    static void promise18Days() {
        sentence(DAYS);
        daysFrom0To9999(MAP);
        neverBelowTheOneAhead(MAP);
        aDayThatWasRefusedIsNoneAhead((x, day) -> x.map(3, 0, 0, day));
        aDayThatWasRefusedIsNoneAhead((x, day) -> x.map(0, 60, 0, day));
        aDayThatWasRefusedIsNoneAhead((x, day) -> x.map(0, 0, 1201, day));
    }

    static void promise18The400th() {
        sentence("A height of a MAP: likewise.");
        the400th(MAP, 8, 9, 2, 6, 360, 5);
    }

    // ---- promise 19

    private static IceHouse readAtBothEnds() {
        IceHouse x = new IceHouse();
        for (int k = 0; k < 12; k++) {
            x.pole(k);
        }
        x.read(0, 0, 10, 20, 5);
        x.read(11, 0, 11, 21, 5);
        x.read(0, 359, 12, 22, 5);
        return x;
    }

    static void promise19ArgumentsAtTheirEnds() {
        sentence("A READING as known on a DAY: what 0 FREE, 1 DEEP, 2, 3 its least and greatest WEIGHT."
            + " NONE: there is none, one can't be, or another what.");
        IceHouse x = readAtBothEnds();
        asks(0, 11, NONE, pole -> x.reading(pole, 0, 5, 0));
        asks(0, 359, NONE, t -> x.reading(0, t, 5, 0));
        asks(5, 9999, NONE, day -> x.reading(0, 0, day, 0));
        asks(0, 3, NONE, what -> x.reading(0, 0, 5, what));
        due(x.reading(0, 0, -1, 0), NONE);
        due(x.reading(0, 0, 10000, 2), NONE);
        due(x.reading(1, 0, 5, 0), NONE);
        due(x.reading(1, 0, 5, 2), NONE);
        due(x.reading(1, 0, 5, 3), NONE);
        due(x.reading(0, 1, 5, 2), NONE);
        due(x.reading(0, 0, 4, 2), NONE);
        due(x.reading(11, 0, 5, 0), 11);
        due(x.reading(11, 0, 5, 1), 21);
        due(x.reading(0, 359, 5, 1), 22);
    }

    static void promise19PolesThatAreNotThereYet() {
        sentence("one can't be");
        IceHouse x = new IceHouse();
        for (int what = 0; what < 4; what++) {
            due(x.reading(0, 0, 0, what), NONE);
        }
        x.pole(0);
        x.read(0, 0, 0, 0, 0);
        due(x.reading(0, 0, 0, 0), 0);
        due(x.reading(1, 0, 0, 0), NONE);
    }

    static void promise19TheLatestToldByThen() {
        sentence(KNOWN);
        IceHouse x = new IceHouse();
        x.pole(0);
        x.pole(0);
        x.read(0, 7, 1, 11, 5);
        x.read(0, 7, 2, 12, 5);
        x.read(1, 7, 8, 18, 6);
        x.read(0, 8, 9, 19, 6);
        x.read(0, 7, 3, 13, 9);
        x.read(0, 7, 4, 14, 9999);
        int[] day = {0, 4, 5, 8, 9, 9998, 9999};
        int[] free = {NONE, NONE, 2, 2, 3, 3, 4};
        for (int k = 0; k < day.length; k++) {
            due(x.reading(0, 7, day[k], 0), free[k]);
            due(x.reading(0, 7, day[k], 1), free[k] == NONE ? NONE : 10 + free[k]);
        }
    }

    static void promise19WeightsOfTheBand() {
        sentence(WEIGHTS);
        IceHouse x = new IceHouse();
        x.set(0, 0, 150);
        x.set(1, 0, 100);
        x.set(2, 0, 199);
        x.set(3, 0, 99);
        x.set(4, 0, 200);
        x.pole(0);
        x.read(0, 3, 1, 1, 1);
        x.pit(3, 3, 1, 1);
        x.pit(4, 3, 9, 1);
        x.pit(1, 2, 1, 1);
        x.pit(1, 4, 9, 1);
        due(x.reading(0, 3, 1, 2), 2);
        due(x.reading(0, 3, 1, 3), 6);
        x.pit(1, 3, 5, 2);
        due(x.reading(0, 3, 2, 2), 5);
        due(x.reading(0, 3, 2, 3), 5);
        x.pit(2, 3, 4, 3);
        due(x.reading(0, 3, 3, 2), 4);
        due(x.reading(0, 3, 3, 3), 5);
        x.pit(2, 3, 9, 4);
        due(x.reading(0, 3, 4, 2), 5);
        due(x.reading(0, 3, 4, 3), 9);
        x.pit(1, 3, 1, 4);
        due(x.reading(0, 3, 4, 2), 1);
        due(x.reading(0, 3, 3, 2), 4);
        due(x.reading(0, 3, 2, 3), 5);
        due(x.reading(0, 3, 1, 3), 6);
    }

    static void promise19WeightsAtTheEndsOfCellsAndBands() {
        sentence("at CELLS of the POLE's BAND");
        IceHouse x = new IceHouse();
        x.pole(30);
        x.read(0, 0, 1, 1, 0);
        x.pit(0, 0, 3, 0);
        x.pit(59, 0, 8, 0);
        due(x.reading(0, 0, 0, 2), 3);
        due(x.reading(0, 0, 0, 3), 8);
        x.set(30, 0, 900);
        due(x.reading(0, 0, 0, 2), 2);
        due(x.reading(0, 0, 0, 3), 6);
        x.set(59, 0, 900);
        due(x.reading(0, 0, 0, 2), 8);
        due(x.reading(0, 0, 0, 3), 8);
        x.set(59, 0, 899);
        due(x.reading(0, 0, 0, 3), 6);
    }

    // ---- promise 20

    static void promise20ArgumentsAtTheirEnds() {
        sentence("A GAUGE as known; NONE if there is none, or one can't be.");
        IceHouse x = new IceHouse();
        due(x.gauged(0, 0), NONE);
        x.gauge(0, 5, 0);
        x.gauge(359, 6, 0);
        asks(0, 359, NONE, t -> x.gauged(t, 0));
        asks(0, 9999, NONE, day -> x.gauged(359, day));
        due(x.gauged(1, 0), NONE);
    }

    static void promise20TheLatestToldByThen() {
        sentence(KNOWN);
        IceHouse x = new IceHouse();
        x.gauge(7, 1, 5);
        x.gauge(7, 2, 5);
        x.gauge(6, 8, 6);
        x.gauge(8, 9, 6);
        x.gauge(7, 3, 9);
        x.gauge(7, 0, 9999);
        int[] day = {0, 4, 5, 8, 9, 9998, 9999};
        int[] ran = {NONE, NONE, 2, 2, 3, 3, 0};
        for (int k = 0; k < day.length; k++) {
            due(x.gauged(7, day[k]), ran[k]);
        }
    }

    // ---- promise 21

    static void promise21ArgumentsAtTheirEnds() {
        sentence("A MAP's height as known; NONE likewise.");
        IceHouse x = new IceHouse();
        due(x.mapped(0, 0, 0), NONE);
        x.map(0, 0, 5, 0);
        x.map(2, 0, 6, 0);
        x.map(0, 59, 7, 0);
        asks(0, 2, NONE, k -> x.mapped(k, 0, 0));
        asks(0, 59, NONE, cell -> x.mapped(0, cell, 0));
        asks(0, 9999, NONE, day -> x.mapped(0, 59, day));
        due(x.mapped(1, 0, 0), NONE);
        due(x.mapped(2, 59, 0), NONE);
        due(x.mapped(0, 1, 0), NONE);
    }

    static void promise21TheLatestToldByThen() {
        sentence(KNOWN);
        IceHouse x = new IceHouse();
        x.map(1, 7, 1, 5);
        x.map(1, 7, 2, 5);
        x.map(1, 8, 8, 6);
        x.map(2, 7, 9, 6);
        x.map(0, 7, 9, 6);
        x.map(1, 7, 3, 9);
        x.map(1, 7, 0, 9999);
        int[] day = {0, 4, 5, 8, 9, 9998, 9999};
        int[] height = {NONE, NONE, 2, 2, 3, 3, 0};
        for (int k = 0; k < day.length; k++) {
            due(x.mapped(1, 7, day[k]), height[k]);
        }
    }

    static void promise21OneKindIsNotTheOther() {
        sentence("CELL and MONTH, MONTH, MAP and CELL");
        IceHouse x = new IceHouse();
        x.pole(0);
        x.read(0, 1, 11, 12, 0);
        x.pit(0, 1, 3, 0);
        x.pit(1, 0, 4, 0);
        due(x.gauged(0, 0), NONE);
        due(x.gauged(1, 0), NONE);
        due(x.mapped(0, 1, 0), NONE);
        due(x.mapped(1, 0, 0), NONE);
        x.gauge(0, 55, 0);
        due(x.mapped(0, 0, 0), NONE);
        x.map(1, 0, 77, 0);
        due(x.reading(0, 1, 0, 0), 11);
        due(x.reading(0, 1, 0, 2), 3);
        due(x.gauged(0, 0), 55);
        due(x.gauged(1, 0), NONE);
        due(x.mapped(1, 0, 0), 77);
    }
}
