/** The edges of promises 11 and 12: MONTHS WORKED and what RAN in them. */
final class MonthBoundaryTests extends Boundary {
    private static final int NONE = IceHouse.NONE;
    private static final String SO_MANY = "So many MONTHS (1 .. 24) are WORKED: what RAN in all;"
        + " NONE, and nothing is done, if one can't be, or there are not so many.";
    private static final String FALLS = "What falls (fall) comes to NEW, if warm is 0 or below, else it RUNS.";
    private static final String MELTS = "Then, if SNOW lies, as much of it as snow tells melts and RUNS (NEW first, then OLD, then FIRN; all at most)";
    private static final String ICE_MELTS = "if none lies, as much of LOOSE and ICE as ice tells"
        + " (ICE by steps of 100, what is over of a step is LOOSE then; all at most).";
    private static final String YEAR_ENDS = "Behind the last MONTH of a YEAR FIRN becomes ICE"
        + " (100 a step, what is over LOOSE; of LOOSE of 100 and more steps are made), OLD becomes FIRN, NEW OLD.";
    private static final String LOWEST = "to the lowest of its neighbours (x or y one more or less; of like ones the least number), if that is lower";
    private static final String STEPS = "as many steps as their difference times ICE times FLOW by 10000, downwards,"
        + " but half the difference (downwards) and all ICE at most.";
    private static final String ABOVE_300 = "ICE of a CELL above 300 RUNS (100 each step) behind both.";

    public static void main(String[] args) throws Exception {
        run(MonthBoundaryTests.class);
    }

    /** A house in which nothing cools upwards and nothing flows. */
    private static IceHouse still(String law) {
        IceHouse x = new IceHouse();
        x.rates(0, 0);
        Checks.law(x, law);
        return x;
    }

    private static void dueIce(IceHouse x, int cell, int ice, int loose) {
        due(x.of(cell, 3), ice);
        due(x.of(cell, 4), loose);
    }

    private static void dueSnow(IceHouse x, int cell, int fresh, int old, int firn) {
        due(x.of(cell, 5), fresh);
        due(x.of(cell, 6), old);
        due(x.of(cell, 7), firn);
    }

    static void promise11From1To24Months() {
        sentence(SO_MANY);
        IceHouse x = still("fall 7; snow 2; ice 3;");
        x.set(0, 3, 5);
        long[] stood = shot(x);
        for (int months : new int[] {Integer.MIN_VALUE, -1, 0, 25, 360, Integer.MAX_VALUE}) {
            due(x.work(months), NONE);
        }
        stands(x, stood);
        due(x.work(1), 60 * 2);
        due(x.look(0), 1);
        due(x.work(24), 60 * 24 * 2);
        due(x.look(0), 25);
        due(x.work(25), NONE);
        due(x.look(0), 25);
    }

    static void promise11NotSoMany() {
        sentence("or there are not so many.");
        for (int left = 0; left <= 24; left++) {
            IceHouse x = still("fall 1 when month = 11 and rain = 9;");
            x.weather(359, 1, 9, 0);
            workTo(x, 360 - left);
            for (int months = left + 1; months <= 25; months++) {
                due(x.work(months), NONE);
            }
            due(x.look(0), 360 - left);
            due(x.look(1), left == 0 ? 60 : 0);
            if (left > 0) {
                due(x.work(left), 60);
                due(x.run(359), 60);
            }
            due(x.look(0), 360);
            due(x.work(1), NONE);
        }
    }

    static void promise11NothingIsDoneBehindTheLast() {
        sentence("NONE, and nothing is done");
        IceHouse x = still("fall 10; ice 1;");
        workTo(x, 350);
        long[] stood = shot(x);
        due(x.work(11), NONE);
        stands(x, stood);
        due(x.work(10), 0);
        stood = shot(x);
        due(x.work(1), NONE);
        stands(x, stood);
    }

    static void promise11WarmOf0OrBelow() {
        sentence(FALLS);
        for (int warm = -2; warm <= 2; warm++) {
            IceHouse x = still("fall 5;");
            x.weather(0, warm, 0, 0);
            due(x.work(1), warm <= 0 ? 0 : 300);
            dueSnow(x, 59, warm <= 0 ? 5 : 0, 0, 0);
        }
        IceHouse x = new IceHouse();
        Checks.law(x, "fall 5;");
        x.weather(0, 1, 0, 0);
        x.set(0, 0, 16);
        x.set(1, 0, 17);
        x.set(2, 3, 17);
        due(x.tells(0, 3), 1);
        due(x.tells(1, 3), 0);
        due(x.work(1), 58 * 5);
        dueSnow(x, 0, 0, 0, 0);
        dueSnow(x, 1, 5, 0, 0);
        dueSnow(x, 2, 5, 0, 0);
    }

    static void promise11TheLawIsAskedAhead() {
        sentence("A MONTH is WORKED CELL by CELL; THE LAW is asked of a CELL ahead of all that the MONTH does there.");
        IceHouse x = still("fall 50 when month = 0; fall 20 when lying = 50; snow lying;");
        due(x.work(1), 0);
        dueSnow(x, 0, 50, 0, 0);
        due(x.tells(0, 0), 20);
        due(x.tells(0, 1), 50);
        due(x.work(1), 60 * 50);
        dueSnow(x, 0, 20, 0, 0);
        due(x.work(1), 60 * 20);
        dueSnow(x, 0, 0, 0, 0);
    }

    static void promise11SnowThatFellMelts() {
        sentence(MELTS);
        IceHouse x = still("fall 1 when month < 2; snow 5 when month = 0; ice 7;");
        x.set(0, 3, 1);
        due(x.work(1), 60);
        dueIce(x, 0, 1, 0);
        due(x.work(1), 0);
        dueSnow(x, 0, 1, 0, 0);
        dueIce(x, 0, 1, 0);
        Checks.law(x, "snow 1; ice 7;");
        due(x.work(1), 60);
        dueIce(x, 0, 1, 0);
        due(x.work(1), 7);
        dueIce(x, 0, 0, 93);
    }

    static void promise11RainOnIceIsNoSnow() {
        sentence("if none lies, as much of LOOSE and ICE as ice tells");
        IceHouse x = still("fall 4; snow 5; ice 7;");
        x.weather(0, 1, 0, 0);
        x.set(0, 3, 1);
        due(x.work(1), 60 * 4 + 7);
        dueIce(x, 0, 0, 93);
    }

    /** In MONTH 25 NEW 40, OLD 20 and FIRN 10 lie, of which so much melts. */
    private static void melt(int melts, int fresh, int old, int firn) {
        IceHouse x = still("fall rain; snow " + melts + " when lying = 70; ice 1000 when dust = 9;");
        x.weather(0, 0, 10, 0);
        x.weather(12, 0, 20, 0);
        x.weather(24, 0, 40, 0);
        x.weather(25, 0, 0, 9);
        workTo(x, 25);
        x.set(59, 3, 3);
        dueSnow(x, 59, 40, 20, 10);
        due(x.work(1), 60 * Math.min(melts, 70));
        dueSnow(x, 59, fresh, old, firn);
        dueIce(x, 59, 3, 0);
    }

    static void promise11NewThenOldThenFirn() {
        sentence(MELTS);
        melt(0, 40, 20, 10);
        melt(1, 39, 20, 10);
        melt(39, 1, 20, 10);
        melt(40, 0, 20, 10);
        melt(41, 0, 19, 10);
        melt(59, 0, 1, 10);
        melt(60, 0, 0, 10);
        melt(61, 0, 0, 9);
        melt(69, 0, 0, 1);
        melt(70, 0, 0, 0);
        melt(71, 0, 0, 0);
        melt(9999, 0, 0, 0);
    }

    /** ICE so many and LOOSE 50, of which so much melts. */
    private static void meltIce(int steps, int melts, int ice, int loose) {
        IceHouse x = still("ice 50 when month = 0; ice " + melts + " when month = 1;");
        x.set(59, 3, steps + 1);
        due(x.work(1), 50);
        dueIce(x, 59, steps, 50);
        due(x.work(1), Math.min(melts, 100 * steps + 50));
        dueIce(x, 59, ice, loose);
    }

    static void promise11IceByStepsOf100() {
        sentence(ICE_MELTS);
        meltIce(2, 0, 2, 50);
        meltIce(2, 1, 2, 49);
        meltIce(2, 49, 2, 1);
        meltIce(2, 50, 2, 0);
        meltIce(2, 51, 1, 99);
        meltIce(2, 150, 1, 0);
        meltIce(2, 151, 0, 99);
        meltIce(2, 249, 0, 1);
        meltIce(2, 250, 0, 0);
        meltIce(2, 251, 0, 0);
        meltIce(0, 49, 0, 1);
        meltIce(0, 50, 0, 0);
        meltIce(0, 9999, 0, 0);
        meltIce(299, 9999, 199, 51);
    }

    static void promise11OfNoIceNothingMelts() {
        sentence("all at most).");
        IceHouse x = still("snow 9999; ice 9999;");
        due(x.work(24), 0);
        x.set(0, 3, 300);
        due(x.work(3), 29997);
        dueIce(x, 0, 0, 3);
        due(x.work(1), 3);
        due(x.work(1), 0);
        due(x.look(4), 0);
    }

    static void promise11BehindTheLastMonthOfAYear() {
        sentence(YEAR_ENDS);
        IceHouse x = still("fall 230 when month = 0 and dust = 1;");
        x.weather(0, 0, 0, 1);
        workTo(x, 11);
        dueSnow(x, 0, 230, 0, 0);
        x.work(1);
        dueSnow(x, 0, 0, 230, 0);
        x.work(11);
        dueSnow(x, 0, 0, 230, 0);
        x.work(1);
        dueSnow(x, 0, 0, 0, 230);
        x.work(11);
        dueSnow(x, 0, 0, 0, 230);
        dueIce(x, 0, 0, 0);
        x.work(1);
        dueSnow(x, 0, 0, 0, 0);
        dueIce(x, 0, 2, 30);
        x.work(24);
        dueIce(x, 0, 2, 30);
    }

    static void promise11BehindTheLastMonthOfTheLastYear() {
        sentence("Behind the last MONTH of a YEAR");
        IceHouse x = still("fall 100 when dust = 1;");
        x.weather(359, 0, 0, 1);
        x.weather(347, 0, 0, 1);
        x.weather(335, 0, 0, 1);
        workTo(x, 359);
        dueSnow(x, 59, 0, 100, 100);
        dueIce(x, 59, 0, 0);
        due(x.work(1), 0);
        dueSnow(x, 59, 0, 100, 100);
        dueIce(x, 59, 1, 0);
    }

    /** LOOSE 99 and FIRN so much when a YEAR ends. */
    private static void press(int firn, int ice, int loose) {
        IceHouse x = still("ice 1 when month = 0 and height = 1; fall " + firn + " when month = 1 and dust = 1;");
        x.weather(1, 0, 0, 1);
        x.set(0, 3, 1);
        due(x.work(1), 1);
        dueIce(x, 0, 0, 99);
        workTo(x, 35);
        dueSnow(x, 0, 0, 0, firn);
        dueIce(x, 0, 0, 99);
        due(x.work(1), 0);
        dueSnow(x, 0, 0, 0, 0);
        dueIce(x, 0, ice, loose);
        dueIce(x, 1, firn / 100, firn % 100);
    }

    static void promise11FirnBecomesIce() {
        sentence("FIRN becomes ICE (100 a step, what is over LOOSE; of LOOSE of 100 and more steps are made)");
        press(0, 0, 99);
        press(1, 1, 0);
        press(2, 1, 1);
        press(99, 1, 98);
        press(100, 1, 99);
        press(101, 2, 0);
        press(199, 2, 98);
        press(200, 2, 99);
        press(201, 3, 0);
    }

    /** ICE of 40 steps at a CELL of GROUND 300; the CELLS told stand at 340, the higher at 900. */
    private static IceHouse flows(int from, int... higher) {
        IceHouse x = new IceHouse();
        x.rates(0, 99);
        x.set(from, 0, 300);
        x.set(from, 3, 40);
        for (int cell : higher) {
            x.set(cell, 0, 900);
        }
        due(x.work(12), 0);
        return x;
    }

    private static void flowsTo(int to, int from, int... higher) {
        IceHouse x = flows(from, higher);
        due(x.of(from, 3), 0);
        due(x.of(to, 3), 40);
    }

    private static void staysAt(int from, int... higher) {
        IceHouse x = flows(from, higher);
        due(x.of(from, 3), 40);
        due(x.look(5), 1);
    }

    static void promise11NeighboursInTheCorners() {
        sentence("x 0 .. 9, y 0 .. 5, CELL 10 y + x.");
        flowsTo(1, 0, 10);
        flowsTo(10, 0, 1);
        staysAt(0, 1, 10);
        flowsTo(8, 9, 19);
        flowsTo(19, 9, 8);
        staysAt(9, 8, 19);
        flowsTo(40, 50, 51);
        flowsTo(51, 50, 40);
        staysAt(50, 40, 51);
        flowsTo(49, 59, 58);
        flowsTo(58, 59, 49);
        staysAt(59, 49, 58);
    }

    static void promise11NeighboursAtTheSides() {
        sentence("its neighbours (x or y one more or less");
        staysAt(10, 0, 11, 20);
        staysAt(19, 9, 18, 29);
        staysAt(29, 19, 28, 39);
        staysAt(30, 20, 31, 40);
        staysAt(5, 4, 6, 15);
        staysAt(55, 45, 54, 56);
        staysAt(33, 23, 32, 34, 43);
        flowsTo(0, 10, 11, 20);
        flowsTo(11, 10, 0, 20);
        flowsTo(20, 10, 0, 11);
        flowsTo(9, 19, 18, 29);
        flowsTo(18, 19, 9, 29);
        flowsTo(29, 19, 9, 18);
        flowsTo(4, 5, 6, 15);
        flowsTo(6, 5, 4, 15);
        flowsTo(15, 5, 4, 6);
        flowsTo(45, 55, 54, 56);
        flowsTo(54, 55, 45, 56);
        flowsTo(56, 55, 45, 54);
    }

    static void promise11NothingLiesBeyondTheSides() {
        sentence("x 0 .. 9, y 0 .. 5");
        int[] from = {0, 5, 9, 10, 19, 30, 39, 50, 55, 59};
        int[] to = {1, 4, 8, 0, 9, 20, 29, 40, 45, 49};
        for (int k = 0; k < from.length; k++) {
            IceHouse x = new IceHouse();
            x.rates(0, 99);
            for (int cell = 0; cell < 60; cell++) {
                x.set(cell, 0, 100);
            }
            x.set(from[k], 0, 300);
            x.set(from[k], 3, 40);
            due(x.work(12), 0);
            due(x.of(from[k], 3), 0);
            due(x.of(to[k], 3), 40);
        }
    }

    static void promise11OfLikeOnesTheLeast() {
        sentence("of like ones the least number");
        flowsTo(23, 33);
        flowsTo(32, 33, 23);
        flowsTo(34, 33, 23, 32);
        flowsTo(43, 33, 23, 32, 34);
        flowsTo(1, 0);
        flowsTo(8, 9);
        flowsTo(40, 50);
        flowsTo(49, 59);
    }

    static void promise11TheLowestOfThem() {
        sentence("to the lowest of its neighbours");
        for (int lowest : new int[] {23, 32, 34, 43}) {
            IceHouse x = new IceHouse();
            x.rates(0, 99);
            for (int cell = 0; cell < 60; cell++) {
                x.set(cell, 0, 300);
            }
            x.set(33, 3, 2);
            x.set(lowest, 0, 299);
            x.set(lowest == 23 ? 43 : 23, 3, 1);
            x.work(12);
            due(x.of(33, 3), 2);
            x.set(33, 0, 340);
            x.work(12);
            due(x.of(lowest, 3), 0);
            x.set(33, 0, 400);
            x.work(12);
            due(x.of(lowest, 3), 2);
        }
    }

    /** ICE of 300 steps with all neighbours so much lower: how many steps flow at FLOW 99. */
    private static void half(int lower, int steps) {
        IceHouse x = new IceHouse();
        x.rates(0, 99);
        x.set(0, 3, 300);
        x.set(1, 0, 300 - lower);
        x.set(10, 0, 900);
        x.set(2, 0, 900);
        x.set(11, 0, 900);
        due(x.work(12), 0);
        due(x.of(1, 3), steps);
        due(x.of(0, 3), 300 - steps);
    }

    static void promise11IfThatIsLower() {
        sentence(LOWEST);
        half(0, 0);
        half(-1, 0);
        half(-50, 0);
    }

    static void promise11HalfTheDifference() {
        sentence("but half the difference (downwards) and all ICE at most.");
        half(1, 0);
        half(2, 1);
        half(3, 1);
        half(4, 2);
        half(5, 2);
        half(299, 149);
        half(300, 150);
    }

    static void promise11StepsDownwards() {
        sentence(STEPS);
        int[][] groundAndSteps = {{89, 0}, {90, 1}, {91, 1}, {189, 1}, {190, 2}, {191, 2}, {289, 2}, {290, 3}};
        for (int[] g : groundAndSteps) {
            IceHouse x = new IceHouse();
            x.set(0, 0, g[0]);
            x.set(0, 3, 10);
            x.work(12);
            due(x.of(1, 3), g[1]);
            due(x.of(0, 3), 10 - g[1]);
        }
    }

    /** Of a CELL so high, all others at 0: how many steps flow. */
    private static void steps(int ground, int ice, int flow, int steps) {
        IceHouse x = new IceHouse();
        x.rates(0, flow);
        x.set(0, 0, ground);
        x.set(0, 3, ice);
        x.work(12);
        due(x.of(1, 3), steps);
    }

    static void promise11StepsBy10000() {
        sentence("as many steps as their difference times ICE times FLOW by 10000, downwards");
        steps(100, 1, 99, 0);
        steps(101, 1, 98, 0);
        steps(199, 1, 50, 1);
        steps(198, 1, 50, 0);
        steps(98, 2, 50, 1);
        steps(97, 2, 50, 0);
        steps(98, 2, 99, 1);
        steps(0, 100, 1, 1);
        steps(0, 99, 1, 0);
        steps(0, 100, 2, 2);
        steps(900, 300, 1, 36);
        steps(900, 300, 8, 288);
        steps(900, 300, 9, 300);
        steps(900, 300, 99, 300);
    }

    static void promise11AllIceAtMost() {
        sentence("and all ICE at most.");
        for (int ice = 0; ice <= 2; ice++) {
            IceHouse x = new IceHouse();
            x.rates(0, 99);
            x.set(59, 0, 900);
            x.set(59, 3, ice);
            x.work(12);
            due(x.of(59, 3), 0);
            due(x.of(49, 3), ice);
            due(x.look(4), 100 * ice);
        }
    }

    static void promise11LooseDoesNotFlow() {
        sentence("from each CELL with ICE");
        IceHouse x = new IceHouse();
        x.rates(0, 99);
        x.set(0, 0, 900);
        x.set(0, 3, 1);
        Checks.law(x, "ice 1 when month = 0;");
        x.work(12);
        dueIce(x, 0, 0, 99);
        dueIce(x, 1, 0, 0);
        due(x.look(4), 99);
    }

    static void promise11AllAtOnce() {
        sentence("Then ICE FLOWS, all at once by SURFACES as they are");
        IceHouse x = new IceHouse();
        x.rates(0, 99);
        for (int cell = 0; cell < 60; cell++) {
            x.set(cell, 0, 900);
        }
        x.set(0, 0, 700);
        x.set(1, 0, 500);
        x.set(2, 0, 300);
        x.set(0, 3, 100);
        x.set(1, 3, 100);
        x.work(12);
        due(x.of(0, 3), 0);
        due(x.of(1, 3), 100);
        due(x.of(2, 3), 100);
        due(x.of(3, 3), 0);
    }

    static void promise11FlowOnlyWhenAYearEnds() {
        sentence("Behind the last MONTH of a YEAR");
        IceHouse x = new IceHouse();
        x.rates(0, 99);
        x.set(0, 0, 900);
        x.set(0, 3, 1);
        x.work(11);
        due(x.of(0, 3), 1);
        x.work(1);
        due(x.of(0, 3), 0);
        due(x.of(1, 3), 1);
        x.set(1, 0, 900);
        x.work(11);
        due(x.of(1, 3), 1);
        x.work(1);
        due(x.of(1, 3), 0);
    }

    /** ICE 300 at one CELL and FIRN so much everywhere when a YEAR ends. */
    private static void over(int firn, int runs, int loose) {
        IceHouse x = still("fall " + firn + " when dust = 1;");
        x.weather(0, 0, 0, 1);
        workTo(x, 35);
        x.set(59, 3, 300);
        x.set(58, 3, 299);
        due(x.work(1), runs);
        due(x.run(35), runs);
        dueIce(x, 59, 300, loose);
        due(x.look(4), x.look(1) + x.look(3) - x.look(2));
    }

    static void promise11IceAbove300Runs() {
        sentence(ABOVE_300);
        over(0, 0, 0);
        over(99, 0, 99);
        over(100, 100, 0);
        over(199, 100, 99);
        over(200, 300, 0);
        over(300, 500, 0);
    }

    static void promise11AboveBehindThePressAndTheFlow() {
        sentence("behind both.");
        IceHouse x = new IceHouse();
        x.rates(0, 1);
        x.weather(0, 0, 0, 1);
        Checks.law(x, "fall 100 when dust = 1 and height = 900;");
        x.set(0, 0, 900);
        workTo(x, 35);
        x.set(0, 3, 300);
        due(x.work(1), 0);
        due(x.of(0, 3), 301 - 1201 * 301 / 10000);
        due(x.of(1, 3), 36);
        IceHouse y = new IceHouse();
        y.rates(0, 99);
        for (int cell = 0; cell < 60; cell++) {
            y.set(cell, 0, 900);
        }
        y.set(0, 0, 700);
        y.set(1, 0, 300);
        y.set(0, 3, 100);
        y.set(1, 3, 280);
        due(y.work(11), 0);
        due(y.work(1), 8000);
        due(y.of(0, 3), 0);
        due(y.of(1, 3), 300);
        due(y.run(11), 8000);
    }

    static void promise11AboveOnlyWhenAYearEnds() {
        sentence(ABOVE_300);
        IceHouse x = still("fall 9999;");
        x.set(0, 3, 300);
        due(x.work(24), 0);
        due(x.work(11), 0);
        due(x.work(1), 100 * (9999 * 12 / 100) + 59 * 100 * (9999 * 12 / 100 - 300));
        dueIce(x, 0, 300, 9999 * 12 % 100);
        dueIce(x, 59, 300, 9999 * 12 % 100);
    }

    static void promise12OfAWorkedMonth() {
        sentence("RUN of a WORKED MONTH; NONE if it is none.");
        IceHouse x = still("fall month + 1;");
        for (int t = 0; t < 24; t++) {
            x.weather(t, 1, 0, 0);
        }
        due(x.run(0), NONE);
        due(x.work(1), 60);
        due(x.run(0), 60);
        due(x.run(1), NONE);
        due(x.run(-1), NONE);
        due(x.run(Integer.MIN_VALUE), NONE);
        due(x.run(Integer.MAX_VALUE), NONE);
        x.work(12);
        due(x.run(11), 720);
        due(x.run(12), 60);
        due(x.run(13), NONE);
    }

    static void promise12OfTheLastMonth() {
        sentence("MONTHS t 0 .. 359");
        IceHouse x = still("fall 2 when rain = 300;");
        x.weather(359, 1, 300, 0);
        workTo(x, 359);
        due(x.run(358), 0);
        due(x.run(359), NONE);
        due(x.work(1), 120);
        asks(0, 359, NONE, t -> x.run(t));
        due(x.run(359), 120);
        due(x.run(360), NONE);
    }

    static void promise12AllThatRunsInIt() {
        sentence("RUN of a MONTH: all that RUNS in it.");
        IceHouse x = still("fall 3 when dust = 1; fall 100 when month < 3; snow 1000 when month = 11; ice 5;");
        x.weather(11, 1, 0, 1);
        x.set(0, 3, 300);
        workTo(x, 11);
        due(x.run(0), 0);
        due(x.run(10), 0);
        due(x.work(1), 60 * 303);
        due(x.run(11), 60 * 303);
        due(x.look(2), 60 * 303);
        due(x.run(12), NONE);
    }

    static void promise12RefusedWorkLeavesRun() {
        sentence("NONE if it is none.");
        IceHouse x = still("fall 1;");
        x.weather(0, 1, 0, 0);
        x.work(1);
        x.work(0);
        x.work(25);
        due(x.run(0), 60);
        due(x.run(1), NONE);
    }
}
