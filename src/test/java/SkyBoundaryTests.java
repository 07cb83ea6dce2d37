/** The edges of promises 3 and 4: WEATHER and RATES. */
final class SkyBoundaryTests extends Boundary {
    private static final int NONE = IceHouse.NONE;
    private static final String WEATHERS = "WARM (-40 .. 40), FALL (0 .. 300), DUST (0 .. 9); all 0 at first.";
    private static final String REFUSED = "true; false, and nothing is done, if one can't be.";
    private static final String RATES = "LAPSE (0 .. 9, 6 at first), FLOW (0 .. 99, 10 at first).";

    public static void main(String[] args) throws Exception {
        run(SkyBoundaryTests.class);
    }

    /** A house whose law tells FALL as fall and DUST as snow. */
    private static IceHouse teller() {
        IceHouse x = new IceHouse();
        Checks.law(x, "fall rain; snow dust;");
        return x;
    }

    private static void dueWeather(IceHouse x, int warm, int fall, int dust) {
        due(x.tells(0, 3), warm);
        due(x.tells(0, 0), fall);
        due(x.tells(0, 1), dust);
    }

    static void promise03MonthFrom0To359() {
        sentence("WEATHER of MONTH t (now or later)");
        IceHouse x = teller();
        edges(x, 0, 359, t -> x.weather(t, 4, 5, 6));
        dueWeather(x, 4, 5, 6);
        workTo(x, 1);
        dueWeather(x, 0, 0, 0);
        workTo(x, 358);
        dueWeather(x, 0, 0, 0);
        workTo(x, 359);
        dueWeather(x, 4, 5, 6);
    }

    static void promise03MonthAheadOfNow() {
        sentence("(now or later)");
        IceHouse x = teller();
        workTo(x, 1);
        edges(x, 1, 359, t -> x.weather(t, 1, 2, 3));
        dueWeather(x, 1, 2, 3);
        workTo(x, 359);
        edges(x, 359, 359, t -> x.weather(t, 7, 8, 9));
        dueWeather(x, 7, 8, 9);
        workTo(x, 360);
        no(x.weather(359, 0, 0, 0));
        no(x.weather(360, 0, 0, 0));
        no(x.weather(0, 0, 0, 0));
    }

    static void promise03PastWeatherStays() {
        sentence("WEATHER of MONTH t (now or later): true; false, and nothing is done");
        IceHouse x = teller();
        x.rates(0, 0);
        for (int t = 0; t < 12; t++) {
            x.weather(t, 1, 10 + t, 0);
        }
        workTo(x, 12);
        for (int t = 0; t < 12; t++) {
            no(x.weather(t, 2, 300, 9));
        }
        due(x.foretell(1, 0, 0), 600);
        due(x.foretell(12, 0, 0), 60 * (120 + 66));
    }

    static void promise03WarmFromMinus40To40() {
        sentence(WEATHERS);
        IceHouse x = teller();
        x.weather(0, 7, 8, 9);
        edges(x, -40, 40, warm -> x.weather(0, warm, 20, 3));
        dueWeather(x, 40, 20, 3);
        yes(x.weather(0, -40, 20, 3));
        dueWeather(x, -40, 20, 3);
    }

    static void promise03FallFrom0To300() {
        sentence(WEATHERS);
        IceHouse x = teller();
        x.weather(0, 7, 8, 9);
        edges(x, 0, 300, fall -> x.weather(0, -5, fall, 3));
        dueWeather(x, -5, 300, 3);
        yes(x.weather(0, -5, 0, 3));
        dueWeather(x, -5, 0, 3);
    }

    static void promise03DustFrom0To9() {
        sentence(WEATHERS);
        IceHouse x = teller();
        x.weather(0, 7, 8, 9);
        edges(x, 0, 9, dust -> x.weather(0, -5, 77, dust));
        dueWeather(x, -5, 77, 9);
        yes(x.weather(0, -5, 77, 0));
        dueWeather(x, -5, 77, 0);
    }

    static void promise03RefusedLeavesALaterMonth() {
        sentence(REFUSED);
        IceHouse x = teller();
        x.weather(7, 5, 50, 6);
        no(x.weather(7, 41, 1, 1));
        no(x.weather(7, -41, 1, 1));
        no(x.weather(7, 1, 301, 1));
        no(x.weather(7, 1, -1, 1));
        no(x.weather(7, 1, 1, 10));
        no(x.weather(7, 1, 1, -1));
        workTo(x, 7);
        dueWeather(x, 5, 50, 6);
        workTo(x, 8);
        dueWeather(x, 0, 0, 0);
    }

    static void promise03ToldTwiceTheLaterCounts() {
        sentence("WEATHER of MONTH t");
        IceHouse x = teller();
        yes(x.weather(0, 40, 300, 9));
        yes(x.weather(0, 0, 0, 0));
        dueWeather(x, 0, 0, 0);
    }

    /** ICE of 100 steps 200 above all others: how many steps of it flow when a YEAR ends. */
    private static long flows(IceHouse x) {
        x.set(0, 0, 100);
        x.set(0, 3, 100);
        x.work(12);
        return x.of(1, 3);
    }

    static void promise04LapseFrom0To9() {
        sentence(RATES);
        IceHouse x = new IceHouse();
        x.set(59, 0, 900);
        edges(x, 0, 9, lapse -> x.rates(lapse, 50));
        due(x.tells(59, 3), -81);
        yes(x.rates(0, 50));
        due(x.tells(59, 3), 0);
        yes(x.rates(1, 50));
        due(x.tells(59, 3), -9);
    }

    static void promise04FlowFrom0To99() {
        sentence(RATES);
        IceHouse x = new IceHouse();
        edges(x, 0, 99, flow -> x.rates(6, flow));
        x.set(0, 0, 49);
        x.set(0, 3, 2);
        x.work(12);
        due(x.of(1, 3), 51 * 2 * 99 / 10000);
        IceHouse y = new IceHouse();
        y.rates(6, 98);
        y.set(0, 0, 49);
        y.set(0, 3, 2);
        y.work(12);
        due(y.of(1, 3), 0);
        IceHouse z = new IceHouse();
        z.rates(6, 0);
        due(flows(z), 0);
        IceHouse w = new IceHouse();
        w.rates(6, 1);
        due(flows(w), 2);
    }

    static void promise04RefusedLeavesBoth() {
        sentence("LAPSE and FLOW: true; false, and nothing is done, if one can't be.");
        IceHouse x = new IceHouse();
        x.set(59, 0, 100);
        no(x.rates(9, 100));
        no(x.rates(9, -1));
        no(x.rates(10, 99));
        no(x.rates(-1, 99));
        due(x.tells(59, 3), -6);
        due(flows(x), 20);
        IceHouse y = new IceHouse();
        yes(y.rates(2, 3));
        no(y.rates(0, 100));
        no(y.rates(10, 0));
        y.set(59, 0, 100);
        due(y.tells(59, 3), -2);
        due(flows(y), 6);
    }

    static void promise04AfterTheLastMonth() {
        sentence("LAPSE and FLOW: true");
        IceHouse x = new IceHouse();
        workTo(x, 360);
        yes(x.rates(0, 0));
        no(x.rates(0, 100));
        due(x.tells(0, 3), NONE - 999);
    }
}
