/** The edges of promises 1, 2, 9 and 13: a new object, CELLS and what is looked at. */
final class CellBoundaryTests extends Boundary {
    private static final int NONE = IceHouse.NONE;
    private static final int NO_FACT = NONE - 999;
    private static final String CELLS = "CELLS 0 .. 59: x 0 .. 9, y 0 .. 5, CELL 10 y + x.";
    private static final String GROUNDS = "Each has GROUND (0 .. 900; 0 at first)";
    private static final String LOOSES = "LOOSE (units below 100; 0)";

    public static void main(String[] args) throws Exception {
        run(CellBoundaryTests.class);
    }

    static void promise01GroundIsBare() {
        sentence("Bare GROUND at 0, no LAW.");
        for (int ten = 0; ten < 60; ten += 10) {
            IceHouse x = new IceHouse();
            for (int cell = ten; cell < ten + 10; cell++) {
                for (int what = 0; what <= 9; what++) {
                    due(x.of(cell, what), 0);
                }
            }
        }
    }

    static void promise01NoLawIsThere() {
        sentence("no LAW.");
        IceHouse x = new IceHouse();
        x.set(0, 3, 1);
        x.weather(0, 40, 300, 9);
        x.weather(1, -40, 300, 9);
        for (int what = 0; what < 3; what++) {
            due(x.tells(0, what), 0);
            due(x.tells(59, what), 0);
        }
        due(x.fault(0), 0);
        due(x.fault(1), NONE);
        due(x.work(24), 0);
        due(x.look(1), 0);
        due(x.of(0, 3), 1);
    }

    static void promise01FirstMonth() {
        sentence("(0 now, at first)");
        IceHouse x = new IceHouse();
        for (int what = 0; what <= 8; what++) {
            due(x.look(what), what == 6 ? NONE : 0);
        }
        due(x.run(0), NONE);
        due(x.spread(1, 0), NONE);
    }

    static void promise01WeatherOfTheFirstAndTheLastMonth() {
        sentence("WARM (-40 .. 40), FALL (0 .. 300), DUST (0 .. 9); all 0 at first.");
        IceHouse x = new IceHouse();
        Checks.law(x, "fall rain; snow dust; ice warm + 1;");
        for (int t : new int[] {0, 1, 11, 12, 358, 359}) {
            workTo(x, t);
            due(x.tells(0, 0), 0);
            due(x.tells(0, 1), 0);
            due(x.tells(0, 2), 1);
            due(x.tells(0, 3), 0);
        }
    }

    static void promise01LapseAtFirst() {
        sentence("LAPSE (0 .. 9, 6 at first)");
        IceHouse x = new IceHouse();
        x.set(0, 0, 16);
        due(x.tells(0, 3), 0);
        x.set(0, 0, 17);
        due(x.tells(0, 3), -1);
        x.set(0, 0, 900);
        due(x.tells(0, 3), -54);
    }

    static void promise01FlowAtFirst() {
        sentence("FLOW (0 .. 99, 10 at first)");
        IceHouse x = new IceHouse();
        x.set(0, 0, 100);
        x.set(0, 3, 100);
        x.work(12);
        due(x.of(1, 3), 20);
        due(x.of(0, 3), 80);
    }

    static void promise01TheConstant() {
        sentence("The constants: `NONE = -1`: None.");
        due(IceHouse.NONE, -1);
        due(new IceHouse().run(0), -1);
    }

    static void promise01NothingIsTold() {
        sentence("Bare GROUND at 0");
        IceHouse x = new IceHouse();
        due(x.reading(0, 0, 9999, 0), NONE);
        due(x.gauged(0, 9999), NONE);
        due(x.gauged(359, 9999), NONE);
        due(x.mapped(0, 0, 9999), NONE);
        due(x.mapped(2, 59, 9999), NONE);
        due(x.sum(0, 359, 9999, 4), 0);
        due(x.unlike(0, 9999, 0), 0);
        yes(x.gauge(0, 0, 0));
    }

    static void promise01The512thCall() {
        sentence("An object is used for at most 512 calls after it has been made");
        IceHouse x = new IceHouse();
        for (int k = 1; k <= 510; k++) {
            yes(x.set(k % 60, 3, k % 300));
        }
        due(x.of(30, 3), 510 % 300);
        due(x.of(29, 3), 509 % 300);
    }

    static void promise02CellsFrom0To59() {
        sentence(CELLS);
        IceHouse x = new IceHouse();
        edges(x, 0, 59, cell -> x.set(cell, 1, 9));
        due(x.of(0, 1), 9);
        due(x.of(59, 1), 9);
        for (int cell = 1; cell < 59; cell++) {
            due(x.of(cell, 1), 0);
        }
    }

    static void promise02WhatFrom0To3() {
        sentence("What 0 GROUND, 1 SHADE, 2 DEBRIS, 3 ICE of a CELL is v: true; false, and nothing is done, if one can't be.");
        IceHouse x = new IceHouse();
        edges(x, 0, 3, what -> x.set(7, what, 5));
        due(x.of(7, 0), 5);
        due(x.of(7, 1), 0);
        due(x.of(7, 2), 0);
        due(x.of(7, 3), 5);
        for (int what = 4; what <= 9; what++) {
            no(x.set(7, what, 1));
        }
        due(x.of(7, 4), 0);
    }

    private static void least0Most(int what, int most) {
        IceHouse x = new IceHouse();
        edges(x, 0, most, v -> x.set(59, what, v));
        due(x.of(59, what), most);
        no(x.set(59, what, most + 1));
        no(x.set(59, what, -1));
        due(x.of(59, what), most);
        yes(x.set(59, what, 0));
        due(x.of(59, what), 0);
        yes(x.set(59, what, most - 1));
        due(x.of(59, what), most - 1);
    }

    static void promise02GroundFrom0To900() {
        sentence(GROUNDS);
        least0Most(0, 900);
    }

    static void promise02ShadeFrom0To9() {
        sentence("SHADE (0 .. 9; 0)");
        least0Most(1, 9);
    }

    static void promise02DebrisFrom0To50() {
        sentence("DEBRIS (0 .. 50; 0)");
        least0Most(2, 50);
    }

    static void promise02IceFrom0To300() {
        sentence("ICE (0 .. 300 steps; 0; a step is 100 units of water)");
        least0Most(3, 300);
        IceHouse x = new IceHouse();
        x.set(5, 3, 300);
        due(x.look(4), 30000);
        no(x.set(5, 3, 301));
        no(x.set(5, 3, -1));
        due(x.look(3), 30000);
        due(x.look(4), 30000);
    }

    static void promise02OneThatCantBe() {
        sentence("false, and nothing is done, if one can't be.");
        IceHouse x = new IceHouse();
        x.set(0, 0, 10);
        x.set(0, 3, 20);
        long[] stood = shot(x);
        no(x.set(60, 0, 0));
        no(x.set(0, 4, 0));
        no(x.set(0, 0, 901));
        no(x.set(0, 1, 50));
        no(x.set(0, 2, 300));
        no(x.set(-1, -1, -1));
        stands(x, stood);
    }

    static void promise02GivenIsWaterLessWaterAhead() {
        sentence("What is told of a CELL by hand counts as GIVEN (WATER then less WATER ahead of it).");
        IceHouse x = new IceHouse();
        x.set(0, 3, 300);
        due(x.look(3), 30000);
        x.set(0, 3, 300);
        due(x.look(3), 30000);
        x.set(0, 3, 1);
        due(x.look(3), 100);
        x.set(0, 3, 0);
        due(x.look(3), 0);
        x.set(0, 0, 900);
        x.set(0, 1, 9);
        x.set(0, 2, 50);
        due(x.look(3), 0);
    }

    static void promise02GivenBesideLoose() {
        sentence("(WATER then less WATER ahead of it)");
        IceHouse x = new IceHouse();
        x.set(0, 3, 1);
        Checks.law(x, "ice 30;");
        due(x.work(1), 30);
        due(x.of(0, 4), 70);
        x.set(0, 3, 1);
        due(x.look(3), 200);
        due(x.look(4), 170);
        x.set(0, 3, 0);
        due(x.look(3), 100);
        due(x.look(4), 70);
        due(x.of(0, 4), 70);
        due(x.work(3), 70);
        x.set(1, 3, 2);
        due(x.look(3), 300);
        due(x.work(1), 30);
        x.set(1, 3, 0);
        due(x.look(3), 200);
        due(x.look(4), 70);
    }

    static void promise02GivenBelowNothing() {
        sentence("counts as GIVEN");
        IceHouse x = new IceHouse();
        x.rates(0, 0);
        x.weather(0, 0, 200, 0);
        Checks.law(x, "fall rain when height = 0;");
        x.set(0, 3, 1);
        workTo(x, 36);
        due(x.of(1, 3), 2);
        x.set(1, 3, 0);
        due(x.look(3), -100);
        due(x.look(4), 59 * 200 - 200 + 100);
        due(x.look(1), 59 * 200);
    }

    static void promise09CellsFrom0To59() {
        sentence(CELLS);
        IceHouse x = new IceHouse();
        for (int what = 0; what <= 9; what++) {
            int asked = what;
            asks(0, 59, NONE, cell -> x.of(cell, asked));
        }
        x.set(0, 0, 100);
        x.set(59, 0, 900);
        due(x.of(0, 0), 100);
        due(x.of(1, 0), 0);
        due(x.of(58, 0), 0);
        due(x.of(59, 0), 900);
    }

    static void promise09WhatFrom0To9() {
        sentence("Of a CELL now what 0 GROUND, 1 SHADE, 2 DEBRIS, 3 ICE, 4 LOOSE, 5 NEW, 6 OLD, 7 FIRN, 8 SURFACE, 9 BAND."
            + " NONE if there is none such, or another what.");
        IceHouse x = new IceHouse();
        asks(0, 9, NONE, what -> x.of(0, what));
        asks(0, 9, NONE, what -> x.of(59, what));
        due(x.of(60, 10), NONE);
        due(x.of(-1, -1), NONE);
    }

    static void promise09Surface() {
        sentence("SURFACE: GROUND and ICE.");
        IceHouse x = new IceHouse();
        due(x.of(59, 8), 0);
        x.set(59, 0, 900);
        due(x.of(59, 8), 900);
        x.set(59, 3, 300);
        due(x.of(59, 8), 1200);
        x.set(59, 0, 0);
        due(x.of(59, 8), 300);
        x.set(59, 3, 1);
        Checks.law(x, "ice 1;");
        x.work(1);
        due(x.of(59, 4), 99);
        due(x.of(59, 8), 0);
    }

    static void promise09BandDownwards() {
        sentence("BAND: GROUND by 100, downwards (0 .. 9).");
        IceHouse x = new IceHouse();
        x.set(0, 3, 300);
        for (int band = 0; band < 9; band++) {
            x.set(0, 0, 100 * band);
            due(x.of(0, 9), band);
            x.set(0, 0, 100 * band + 99);
            due(x.of(0, 9), band);
        }
        x.set(0, 0, 900);
        due(x.of(0, 9), 9);
    }

    static void promise09LooseIsBelow100() {
        sentence(LOOSES);
        for (int melts = 0; melts <= 201; melts++) {
            IceHouse x = new IceHouse();
            x.set(0, 3, 2);
            Checks.law(x, "ice " + melts + ";");
            int ran = Math.min(melts, 200);
            due(x.work(1), ran);
            due(x.of(0, 3), (200 - ran) / 100);
            due(x.of(0, 4), (200 - ran) % 100);
        }
    }

    static void promise09HeapsAreFullAndEmpty() {
        sentence("SNOW in three heaps: NEW, OLD, FIRN (units; 0).");
        IceHouse x = new IceHouse();
        x.rates(0, 0);
        Checks.law(x, "fall 9999 when month = 0; snow 9999 when month = 5;");
        x.work(1);
        due(x.of(59, 5), 9999);
        due(x.of(59, 6), 0);
        due(x.of(59, 7), 0);
        x.work(4);
        due(x.of(59, 5), 9999);
        due(x.work(1), 60 * 9999);
        due(x.of(59, 5), 0);
        due(x.look(4), 0);
    }

    static void promise13WhatFrom0To8() {
        sentence("NONE - 999 for another what.");
        IceHouse x = new IceHouse();
        asks(0, 8, NO_FACT, what -> (int) x.look(what));
        due(x.look(-1), -1000);
        due(x.look(9), -1000);
    }

    static void promise13NowFrom0To360() {
        sentence("MONTHS t 0 .. 359 (0 now, at first)");
        IceHouse x = new IceHouse();
        due(x.look(0), 0);
        x.work(1);
        due(x.look(0), 1);
        workTo(x, 359);
        due(x.work(2), NONE);
        due(x.look(0), 359);
        due(x.work(1), 0);
        due(x.look(0), 360);
        due(x.work(1), NONE);
        due(x.look(0), 360);
    }

    static void promise13WaterIsFellAndGivenLessRan() {
        sentence("So WATER is always FELL and GIVEN less all that RAN.");
        IceHouse x = new IceHouse();
        x.rates(9, 99);
        Checks.law(x, "fall 9999; snow 9999 when month = 3; ice 500;");
        for (int cell = 0; cell < 60; cell++) {
            x.set(cell, 0, 15 * cell);
            x.set(cell, 3, cell % 7 * 50);
        }
        for (int k = 0; k < 15; k++) {
            x.weather((int) x.look(0) + 1, k % 3 * 40, 0, 0);
            x.work(24);
            x.set(k, 3, k * 20);
            due(x.look(4), x.look(1) + x.look(3) - x.look(2));
        }
        due(x.look(1), 360L * 60 * 9999);
    }

    static void promise13FellOnceAllMonthsWereWorked() {
        sentence("FELL: all that fell ever.");
        IceHouse x = new IceHouse();
        Checks.law(x, "fall 9999;");
        for (int t = 0; t < 360; t++) {
            x.weather(t, 1, 0, 0);
        }
        for (int k = 0; k < 15; k++) {
            due(x.work(24), 24 * 60 * 9999);
        }
        due(x.look(1), 215978400L);
        due(x.look(2), 215978400L);
        due(x.look(4), 0);
    }

    static void promise13WaterOfAllThatLies() {
        sentence("WATER: all that lies (100 times ICE, LOOSE, SNOW).");
        IceHouse x = new IceHouse();
        due(x.look(4), 0);
        for (int cell = 0; cell < 60; cell++) {
            x.set(cell, 3, 300);
        }
        due(x.look(4), 60 * 30000);
        due(x.look(3), 60 * 30000);
        Checks.law(x, "ice 1 when month = 0; fall 9999 when month = 1;");
        due(x.work(1), 60);
        due(x.of(59, 4), 99);
        due(x.look(4), 60 * 29999);
        due(x.work(1), 0);
        due(x.look(4), 60 * (29999 + 9999));
    }

    static void promise13CellsWithIce() {
        sentence("5 CELLS with ICE");
        IceHouse x = new IceHouse();
        due(x.look(5), 0);
        x.set(59, 3, 1);
        due(x.look(5), 1);
        for (int cell = 0; cell < 60; cell++) {
            x.set(cell, 3, 1);
        }
        due(x.look(5), 60);
        x.set(0, 3, 2);
        Checks.law(x, "ice 1;");
        x.work(1);
        due(x.of(0, 3), 1);
        due(x.of(59, 4), 99);
        due(x.look(5), 1);
        x.work(24);
        x.set(0, 3, 0);
        due(x.look(5), 0);
    }

    static void promise13LeastGround() {
        sentence("6 the least GROUND of these (NONE)");
        IceHouse x = new IceHouse();
        due(x.look(6), NONE);
        x.set(30, 0, 900);
        x.set(30, 3, 1);
        due(x.look(6), 900);
        x.set(59, 0, 899);
        due(x.look(6), 900);
        x.set(59, 3, 300);
        due(x.look(6), 899);
        x.set(0, 3, 1);
        due(x.look(6), 0);
        x.set(0, 3, 0);
        due(x.look(6), 899);
        x.set(30, 3, 0);
        x.set(59, 3, 0);
        due(x.look(6), NONE);
    }

    static void promise13TellingsAndPolesWhenRefused() {
        sentence("7 TELLINGS, 8 POLES.");
        IceHouse x = new IceHouse();
        due(x.look(7), 0);
        due(x.look(8), 0);
        for (int k = 0; k < 14; k++) {
            x.pole(k);
        }
        due(x.look(8), 12);
        due(x.look(7), 0);
        no(x.gauge(360, 0, 0));
        due(x.look(7), 0);
        for (int k = 0; k < 402; k++) {
            x.gauge(0, 0, 0);
        }
        due(x.look(7), 400);
        due(x.look(8), 12);
    }
}
