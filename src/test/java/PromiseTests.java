/** Each promise of ../shared/DOC.md by calls whose answers are worked out by hand. */
final class PromiseTests {
    private static final int NO_FACT = -1000;
    private static final int NO_GAIN = -1000000;
    private static final int NO_SUM = -100000000;
    private static final int NO_OFFSET = -10000;

    public static void main(String[] args) {
        newObject();
        set();
        weather();
        rates();
        feed();
        end();
        lawLines();
        lawFaultsByPlace();
        lawFaultsByCount();
        lawOfFullTape();
        lawKeptOnFault();
        fault();
        of();
        tells();
        tellsOrderAndTies();
        tellsConditions();
        workFallAndMelt();
        workYear();
        workFlow();
        workFlowOrder();
        workLittle();
        workBounds();
        run();
        look();
        pole();
        read();
        pit();
        gauge();
        map();
        fourHundred();
        reading();
        gauged();
        mapped();
        gain();
        gainOfTheLast();
        value();
        sum();
        next();
        offset();
        offsetOfAll();
        parted();
        unlike();
        foretell();
        spread();
        Checks.close("PromiseTests");
    }

    private static void due(String call, long got, long want) {
        Checks.due(call, got, want);
    }

    private static void due(String call, boolean got, boolean want) {
        Checks.due(call, got, want);
    }

    private static void newObject() {
        IceHouse x = new IceHouse();
        due("1 NONE", IceHouse.NONE, -1);
        for (int cell = 0; cell < 60; cell++) {
            IceHouse one = new IceHouse();
            for (int what = 0; what <= 9; what++) {
                due("1 of(" + cell + ", " + what + ")", one.of(cell, what), 0);
            }
        }
        for (int what = 0; what <= 8; what++) {
            due("1 look(" + what + ")", x.look(what), what == 6 ? -1 : 0);
        }
        due("1 tells without law", x.tells(3, 2), 0);
        due("1 fault", x.fault(0), 0);
        due("1 fault place", x.fault(1), -1);
        due("1 empty tape", x.end(1), false);
        due("1 LAPSE 6", x.set(0, 0, 900), true);
        due("1 LAPSE 6", x.tells(0, 3), -54);
        due("1 work", x.work(24), 0);
    }

    private static void set() {
        IceHouse x = new IceHouse();
        int[] most = {900, 9, 50, 300};
        for (int what = 0; what < 4; what++) {
            due("2 most", x.set(59, what, most[what]), true);
            due("2 above most", x.set(59, what, most[what] + 1), false);
            due("2 below 0", x.set(59, what, -1), false);
            due("2 stays", x.of(59, what), most[what]);
            due("2 other cell", x.of(58, what), 0);
        }
        due("2 what 4", x.set(0, 4, 0), false);
        due("2 what -1", x.set(0, -1, 0), false);
        due("2 cell -1", x.set(-1, 0, 0), false);
        due("2 cell 60", x.set(60, 0, 0), false);
        due("2 GIVEN", x.look(3), 30000);
        due("2 less ICE", x.set(59, 3, 100), true);
        due("2 GIVEN less", x.look(3), 10000);
        due("2 WATER", x.look(4), 10000);
        due("2 to 0", x.set(59, 3, 0), true);
        due("2 GIVEN none", x.look(3), 0);
        due("2 set ICE", x.set(0, 3, 2), true);
        Checks.law(x, "ice 150;");
        x.work(1);
        due("2 LOOSE", x.of(0, 4), 50);
        due("2 ICE again", x.set(0, 3, 1), true);
        due("2 LOOSE stays", x.of(0, 4), 50);
        due("2 GIVEN again", x.look(3), 300);
        x.set(0, 3, 3);
        due("2 GIVEN now", x.look(3), 500);
        due("2 WATER now", x.look(4), 350);
    }

    private static void weather() {
        IceHouse x = new IceHouse();
        Checks.law(x, "fall rain + dust * 1000;");
        due("3 least", x.weather(0, -40, 0, 0), true);
        due("3 most", x.weather(0, 40, 300, 9), true);
        due("3 warm", x.tells(0, 3), 40);
        due("3 fall and dust", x.tells(0, 0), 9300);
        due("3 too cold", x.weather(0, -41, 0, 0), false);
        due("3 too warm", x.weather(0, 41, 0, 0), false);
        due("3 fall -1", x.weather(0, 0, -1, 0), false);
        due("3 fall 301", x.weather(0, 0, 301, 0), false);
        due("3 dust -1", x.weather(0, 0, 0, -1), false);
        due("3 dust 10", x.weather(0, 0, 0, 10), false);
        due("3 nothing done", x.tells(0, 0), 9300);
        due("3 last", x.weather(359, 1, 2, 3), true);
        due("3 behind", x.weather(360, 1, 2, 3), false);
        due("3 t -1", x.weather(-1, 1, 2, 3), false);
        due("3 a later MONTH", x.weather(1, 3, 7, 0), true);
        x.work(1);
        due("3 past", x.weather(0, 0, 0, 0), false);
        due("3 later is asked", x.tells(0, 0), 7);
        due("3 now", x.weather(1, 4, 8, 0), true);
        due("3 now is asked", x.tells(0, 0), 8);
    }

    private static void rates() {
        IceHouse x = new IceHouse();
        x.set(0, 0, 199);
        due("4 LAPSE at first", x.tells(0, 3), -11);
        due("4 most", x.rates(9, 99), true);
        due("4 LAPSE", x.tells(0, 3), -17);
        due("4 10", x.rates(10, 0), false);
        due("4 100", x.rates(0, 100), false);
        due("4 -1", x.rates(-1, 0), false);
        due("4 flow -1", x.rates(0, -1), false);
        due("4 stays", x.tells(0, 3), -17);
        due("4 none", x.rates(0, 0), true);
        due("4 no LAPSE", x.tells(0, 3), 0);
    }

    private static void feed() {
        IceHouse x = new IceHouse();
        for (int k = 1; k <= 40; k++) {
            due("5 feed", x.feed(0, 0, 0, 0, 0), 20 * k);
        }
        due("5 more than 800", x.feed(0, 0, 0, 0, 0), -1);
        due("5 end 800", x.end(800), true);
        due("5 end 780", x.end(781), true);
        due("5 801", x.feed(0, 0, 0, 0, 0), -1);
        due("5 end 780", x.end(780), true);
        due("5 800", x.feed(0, 0, 0, 0, 0), 800);
        x.end(0);
        due("5 order", x.feed(Checks.four("fall", 0), Checks.four(" 123", 0), Checks.four("4;sn", 0), Checks.four("ow 9", 0), Checks.four("876;", 0)), 20);
        due("5 law", x.law(), 2);
        due("5 fall", x.tells(0, 0), 1234);
        due("5 snow", x.tells(0, 1), 9876);
        x.feed(0xff800000, 0, 0, 0, 0);
        due("5 high bytes", x.law(), -1);
        due("5 high bytes at", x.fault(1), 0);
    }

    private static void end() {
        IceHouse x = new IceHouse();
        due("6 end 0", x.end(0), true);
        due("6 end 1", x.end(1), false);
        due("6 end -1", x.end(-1), false);
        Checks.tape(x, "fall 12;");
        due("6 too many", x.end(9), false);
        due("6 all", x.end(8), true);
        due("6 cut", x.end(7), true);
        due("6 cut is gone", x.end(8), false);
        due("6 below 0 changes nothing", x.end(-5), false);
        due("6 law", x.law(), -1);
        due("6 place", x.fault(1), 7);
        due("6 tape is empty", x.end(1), false);
    }

    private static void lawLines() {
        IceHouse x = new IceHouse();
        due("7 empty", x.law(), 0);
        due("7 blanks", Checks.law(x, " \n \n"), 0);
        due("7 one", Checks.law(x, "fall 1;"), 1);
        due("7 no blanks", Checks.law(x, "fall1when2<3;snow(4);ice warm"
            + "*dust-rain/7 when not height=shade or debris>month and lying<1;"), 3);
        StringBuilder lines = new StringBuilder();
        for (int k = 0; k < 24; k++) {
            lines.append("ice ").append(k).append(";\n");
        }
        due("7 24 lines", Checks.law(x, lines.toString()), 24);
        due("7 the first counts", x.tells(0, 2), 0);
        due("7 tape is empty", x.end(1), false);
        due("7 empty again", x.law(), 0);
        due("7 no law", x.tells(0, 2), 0);
    }

    private static void badLaw(String text, int fault, int place) {
        IceHouse x = new IceHouse();
        due("7 " + text, Checks.law(x, text), -1);
        due("8 fault of " + text, x.fault(0), fault);
        due("8 place in " + text, x.fault(1), place);
        due("7 tape is empty", x.end(1), false);
    }

    private static void lawFaultsByPlace() {
        badLaw("x", 1, 0);
        badLaw(" ;", 1, 1);
        badLaw("fall", 1, 4);
        badLaw("fall  ", 1, 6);
        badLaw("fall 1", 1, 6);
        badLaw("fall ;", 1, 5);
        badLaw("falls 1;", 1, 0);
        badLaw("Fall 1;", 1, 0);
        badLaw("fall\t1;", 1, 4);
        for (char letter : "azAZmM".toCharArray()) {
            badLaw("fall" + letter + " 1;", 1, 0);
        }
        for (char sign : "@[`{".toCharArray()) {
            badLaw("fall" + sign + " 1;", 1, 4);
            badLaw("fall 1" + sign, 1, 6);
        }
        badLaw("fall 1/", 1, 7);
        badLaw("fall 1:", 1, 6);
        badLaw("fall 12345;", 1, 5);
        badLaw("fall 1 2;", 1, 7);
        badLaw("fall 1 fall 2;", 1, 7);
        badLaw("fall 1 +;", 1, 8);
        badLaw("fall - 1;", 1, 5);
        badLaw("fall 1);", 1, 6);
        badLaw("fall (1;", 1, 7);
        badLaw("fall ();", 1, 6);
        badLaw("fall 1 < 2;", 1, 7);
        badLaw("fall not 1;", 1, 5);
        badLaw("fall 1 when;", 1, 11);
        badLaw("fall 1 when 2;", 1, 13);
        badLaw("fall 1 when 2 < 3 < 4;", 1, 18);
        badLaw("fall 1 when (2 < 3);", 1, 15);
        badLaw("fall 1 when 2 < not 3 < 4;", 1, 16);
        badLaw("fall 1 when 2 and 3;", 1, 14);
        badLaw("fall 1 when 2 < 3 and;", 1, 21);
        badLaw("fall 1 when 2 < 3 when 3 < 4;", 1, 18);
        badLaw("fall 1 when not;", 1, 15);
        badLaw("fall 1 / warm;", 1, 9);
        badLaw("fall 1 / (2);", 1, 9);
        badLaw("fall 1 / 00000;", 1, 9);
        badLaw("fall 1 / 0;", 2, 9);
        badLaw("fall 1 / 0000 ?", 2, 9);
        badLaw("fall 1 ? / 0;", 1, 7);
        badLaw("fall 1; rain", 1, 8);
        badLaw("when 1 < 2;", 1, 0);
        badLaw("fall heightx;", 1, 5);
        badLaw("fall 1 when 2 < 3 or or;", 1, 21);
        badLaw("fall 1 when 2 >= 3;", 1, 15);
        badLaw("fall month lying;", 1, 11);
        badLaw("fall \u00e9;", 1, 5);
        badLaw("fall 1;\u0000", 1, 7);
    }

    private static void lawFaultsByCount() {
        StringBuilder lines = new StringBuilder();
        for (int k = 0; k < 24; k++) {
            lines.append("ice 1;");
        }
        badLaw(lines + " snow 1 / 0;", 3, 145);
        badLaw(lines + " 1", 1, 145);
        badLaw("fall ((((((((1", 1, 14);
        badLaw("fall (((((((((1", 3, 13);
        badLaw("fall 1 when not not not not not not not not not 1 < 2;", 3, 44);
        badLaw("fall 1 when not not not not not not not not (1) < 2;", 3, 44);
        badLaw("fall 1 when not 1 < ((((((((2))))))));", 3, 27);
        IceHouse x = new IceHouse();
        due("7 8 open", Checks.law(x, "fall ((((((((1))))))))+((((((((2))))))));"), 1);
        due("7 8 open counts", x.tells(0, 0), 3);
        due("7 8 nots", Checks.law(x, "fall 1 when not not not not not not not not 1 < 2;"), 1);
        due("7 8 nots count", x.tells(0, 0), 1);
        due("7 nots are closed", Checks.law(x, "fall 1 when not not not not 2 < 1 and not not not not not 2 < (((1))) or"
            + " not not not not not not 1 < ((1));"), 1);
        due("7 nots are closed and count", x.tells(0, 0), 0);
        due("7 all open at once", Checks.law(x, "fall 7 when not not not not ((((1)))) < ((((2))));"), 1);
        due("7 all open at once count", x.tells(0, 0), 7);
    }

    private static void lawOfFullTape() {
        IceHouse x = new IceHouse();
        String sum = "fall1" + "+1".repeat(397);
        due("7 800 bytes", Checks.law(x, sum + ";"), 1);
        due("7 398 numbers", x.tells(0, 0), 398);
        badLaw(sum + " ", 1, 800);
        badLaw(sum + "+", 1, 800);
        badLaw(";".repeat(800), 1, 0);
        badLaw("(".repeat(800), 1, 0);
        badLaw("fall" + "9".repeat(796), 1, 4);
        badLaw("a".repeat(800), 1, 0);
        due("7 800 blanks", Checks.law(x, " ".repeat(800)), 0);
    }

    private static void lawKeptOnFault() {
        IceHouse x = new IceHouse();
        Checks.law(x, "fall 5; ice 6;");
        due("7 fault", Checks.law(x, "fall 9; ice 8; snow 7 / 0;"), -1);
        due("7 fall stays", x.tells(0, 0), 5);
        due("7 ice stays", x.tells(0, 2), 6);
        due("7 snow stays", x.tells(0, 1), 0);
        x.weather(0, 1, 0, 0);
        due("7 the law in force works", x.work(1), 300);
    }

    private static void fault() {
        IceHouse x = new IceHouse();
        Checks.law(x, "fall 1 / 0;");
        due("8 fault", x.fault(0), 2);
        due("8 place", x.fault(1), 9);
        due("8 what 2", x.fault(2), -1);
        due("8 what -1", x.fault(-1), -1);
        due("8 law", Checks.law(x, "fall 1;"), 1);
        due("8 no fault", x.fault(0), 0);
        due("8 no place", x.fault(1), -1);
        Checks.law(x, "?");
        due("8 fault again", x.fault(0), 1);
        due("8 place again", x.fault(1), 0);
    }

    private static void of() {
        IceHouse x = new IceHouse();
        x.set(12, 0, 299);
        x.set(12, 1, 4);
        x.set(12, 2, 33);
        x.set(12, 3, 250);
        due("9 GROUND", x.of(12, 0), 299);
        due("9 SHADE", x.of(12, 1), 4);
        due("9 DEBRIS", x.of(12, 2), 33);
        due("9 ICE", x.of(12, 3), 250);
        due("9 SURFACE", x.of(12, 8), 549);
        due("9 BAND", x.of(12, 9), 2);
        due("9 what 10", x.of(12, 10), -1);
        due("9 what -1", x.of(12, -1), -1);
        due("9 cell -1", x.of(-1, 0), -1);
        due("9 cell 60", x.of(60, 0), -1);
        x.set(12, 0, 900);
        due("9 BAND 9", x.of(12, 9), 9);
    }

    private static void tells() {
        IceHouse x = new IceHouse();
        x.set(7, 0, 150);
        x.set(7, 1, 3);
        x.set(7, 2, 20);
        x.set(7, 3, 49);
        x.weather(0, 30, 120, 5);
        Checks.law(x, "fall warm; snow rain; ice dust;");
        due("10 warm", x.tells(7, 0), 19);
        due("10 rain", x.tells(7, 1), 120);
        due("10 dust", x.tells(7, 2), 5);
        due("10 what 3", x.tells(7, 3), 19);
        Checks.law(x, "fall height; snow shade; ice debris;");
        due("10 height", x.tells(7, 0), 199);
        due("10 shade", x.tells(7, 1), 3);
        due("10 debris", x.tells(7, 2), 20);
        Checks.law(x, "fall 9999; snow month; ice lying;");
        due("10 month", x.tells(7, 1), 0);
        due("10 lying", x.tells(7, 2), 0);
        due("10 what 4", x.tells(7, 4), NO_FACT);
        due("10 what -1", x.tells(7, -1), NO_FACT);
        due("10 cell -1", x.tells(-1, 0), NO_FACT);
        due("10 cell 60", x.tells(60, 3), NO_FACT);
        Checks.law(x, "snow month; ice lying;");
        x.work(11);
        due("10 month 11", x.tells(7, 1), 11);
        x.work(2);
        due("10 month of the year", x.tells(7, 1), 1);
        for (int k = 0; k < 14; k++) {
            x.work(24);
        }
        x.work(10);
        due("10 last MONTH", x.tells(7, 1), 11);
        x.work(1);
        due("10 behind the last MONTH", x.tells(7, 1), NO_FACT);
        due("10 warm behind the last MONTH", x.tells(7, 3), NO_FACT);
    }

    private static int worth(String text) {
        IceHouse x = new IceHouse();
        x.weather(0, -7, 10, 3);
        due("10 law fall " + text, Checks.law(x, "fall " + text + ";"), 1);
        return x.tells(0, 0);
    }

    private static void tellsOrderAndTies() {
        due("10 * ahead of +", worth("1 + 2 * 3"), 7);
        due("10 from the left", worth("10 - 3 - 2"), 5);
        due("10 parted from the left", worth("100 / 10 / 3"), 3);
        due("10 parted then times", worth("7 / 2 * 2"), 6);
        due("10 ( )", worth("(1 + 2) * 3"), 9);
        due("10 towards 0", worth("10 + warm / 2"), 7);
        due("10 below 0", worth("warm"), 0);
        due("10 0 - warm", worth("0 - warm"), 7);
        due("10 at most 9999", worth("9999 + 1"), 9999);
        due("10 9999", worth("9999 + 0"), 9999);
        due("10 ints wrap", worth("9999 * 9999 * 9999 - 0"), 0);
        due("10 ints wrap upwards", worth("(9999*9999*43 + 9999*9999*42 + 9999) / 9999"), 0);
        due("10 ints wrap and come back", worth("(0 - 9999*9999*22) / 9999"), 9999);
        due("10 wrapped to small", worth("256*256*256*256 + 5"), 5);
        IceHouse x = new IceHouse();
        Checks.law(x, "snow 1; fall 2 when 1 > 2; fall 3; fall 4;");
        due("10 first that counts", x.tells(0, 0), 3);
        due("10 other sorts", x.tells(0, 1), 1);
        due("10 without one", x.tells(0, 2), 0);
    }

    private static boolean holds(String text) {
        return worth("1 when " + text) == 1;
    }

    private static void tellsConditions() {
        due("10 <", holds("1 < 2"), true);
        due("10 < like", holds("2 < 2"), false);
        due("10 =", holds("2 = 2"), true);
        due("10 = unlike", holds("2 = 3"), false);
        due("10 >", holds("2 > 1"), true);
        due("10 > like", holds("2 > 2"), false);
        due("10 below 0", holds("warm < 0 - 6"), true);
        due("10 and ahead of or", holds("1 = 1 or 1 = 2 and 1 = 2"), true);
        due("10 or behind and", holds("1 = 2 and 1 = 2 or 1 = 1"), true);
        due("10 and", holds("1 = 1 and 1 = 2"), false);
        due("10 or", holds("1 = 2 or 1 = 2"), false);
        due("10 not", holds("not 1 = 2"), true);
        due("10 not so", holds("not 1 = 1"), false);
        due("10 not not so", holds("not not 1 = 1"), true);
        due("10 not binds closest", holds("not 1 = 1 or 1 = 1"), true);
        due("10 not and", holds("not 1 = 2 and 1 = 2"), false);
        due("10 not not", holds("not not 1 = 2"), false);
        due("10 sums on both sides", holds("1 + 2 * 3 = 10 - 3"), true);
    }

    private static void workFallAndMelt() {
        IceHouse x = new IceHouse();
        x.set(0, 0, 100);
        x.weather(0, 6, 50, 0);
        x.weather(1, 7, 50, 0);
        x.weather(2, 0, 0, 0);
        Checks.law(x, "fall rain; snow 30 when lying > 0; snow 20; ice 10;");
        due("11 warm 0 falls as snow, the rest runs", x.work(1), 59 * 50 + 20);
        due("11 NEW", x.of(0, 5), 30);
        due("11 warm 1 runs", x.work(1), 60 * 50 + 30);
        due("11 melted", x.of(0, 5), 0);
        x.set(0, 3, 1);
        due("11 ice", x.work(1), 10);
        due("11 ICE", x.of(0, 3), 0);
        due("11 LOOSE", x.of(0, 4), 90);
        due("11 FELL", x.look(1), 6000);
        due("11 RAN", x.look(2), 59 * 50 + 20 + 3030 + 10);
        for (int t = 3; t < 12; t++) {
            x.work(1);
        }
        due("11 LOOSE ran", x.of(0, 4), 0);
        due("11 at most all", x.run(11), 10);
        due("11 WATER", x.look(4), x.look(1) + x.look(3) - x.look(2));
    }

    private static void workYear() {
        IceHouse x = new IceHouse();
        for (int t = 0; t < 60; t++) {
            x.weather(t, -40, 0, 0);
        }
        x.rates(6, 0);
        x.weather(0, -40, 130, 0);
        x.weather(12, -40, 70, 0);
        x.weather(24, -40, 20, 0);
        Checks.law(x, "fall rain; snow 25 when month = 1 and lying = 220; snow 180 when month = 2 and lying = 195;");
        x.work(11);
        due("11 NEW", x.of(5, 5), 130);
        x.work(1);
        due("11 NEW is OLD", x.of(5, 6), 130);
        due("11 no NEW", x.of(5, 5), 0);
        x.work(12);
        due("11 OLD is FIRN", x.of(5, 7), 130);
        due("11 NEW is OLD again", x.of(5, 6), 70);
        due("11 nothing ran", x.look(2), 0);
        x.work(1);
        due("11 month 1 melts NEW first, then OLD", x.work(1), 60 * 25);
        due("11 NEW gone", x.of(5, 5), 0);
        due("11 OLD less", x.of(5, 6), 65);
        due("11 FIRN last", x.work(1), 60 * 180);
        due("11 FIRN less", x.of(5, 7), 15);
        x.set(5, 3, 1);
        x.work(9);
        due("11 FIRN is LOOSE", x.of(5, 4), 15);
        due("11 ICE stays", x.of(5, 3), 1);
        x = new IceHouse();
        x.rates(0, 0);
        x.set(0, 3, 1);
        x.weather(12, 0, 270, 0);
        Checks.law(x, "fall rain; ice 20 when month = 0 and height = 1;");
        x.work(1);
        due("11 LOOSE 80", x.of(0, 4), 80);
        x.work(23);
        due("11 no ICE yet", x.of(0, 3), 0);
        x.work(12);
        due("11 FIRN ahead of ICE", x.of(0, 7), 270);
        x.work(12);
        due("11 ICE of FIRN and LOOSE", x.of(0, 3), 3);
        due("11 LOOSE left", x.of(0, 4), 50);
        due("11 elsewhere ICE", x.of(1, 3), 2);
        due("11 elsewhere LOOSE", x.of(1, 4), 70);
    }

    private static void workFlow() {
        IceHouse x = new IceHouse();
        for (int cell = 0; cell < 60; cell++) {
            x.set(cell, 0, 500);
        }
        x.set(22, 3, 100);
        x.set(12, 0, 490);
        x.set(32, 0, 480);
        x.work(12);
        due("11 to the lowest: 120 * 100 * 10 / 10000", x.of(32, 3), 12);
        due("11 from", x.of(22, 3), 88);
        x.rates(6, 99);
        x.work(11);
        x.set(22, 3, 100);
        x.set(32, 3, 0);
        x.work(1);
        due("11 half at most", x.of(32, 3), 60);
        x = new IceHouse();
        x.rates(0, 99);
        x.set(0, 0, 900);
        x.set(0, 3, 2);
        x.work(12);
        due("11 900 * 2 * 99 / 10000 is above all ICE", x.of(1, 3), 2);
        due("11 none left", x.of(0, 3), 0);
        x = new IceHouse();
        for (int cell = 0; cell < 60; cell++) {
            x.set(cell, 3, 300);
        }
        x.set(33, 0, 200);
        x.rates(0, 10);
        due("11 60 steps above 300 RUN", x.work(12), 6000);
        due("11 flows up the page first", x.of(23, 3), 300);
        due("11 200 * 300 * 10 / 10000", x.of(33, 3), 240);
    }

    /** ICE of 40 steps on a CELL 300 above all others flows to one of them. */
    private static int flowsTo(int from, int... higher) {
        IceHouse x = new IceHouse();
        x.rates(0, 10);
        x.set(from, 0, 300);
        x.set(from, 3, 40);
        for (int cell : higher) {
            x.set(cell, 0, 1);
        }
        x.work(12);
        due("11 340 * 40 * 10 / 10000", x.of(from, 3), 40 - 13);
        for (int cell = 0; cell < 60; cell++) {
            if (cell != from && x.of(cell, 3) > 0) {
                due("11 all of it", x.of(cell, 3), 13);
                return cell;
            }
        }
        return -1;
    }

    private static void workFlowOrder() {
        due("11 in a corner", flowsTo(0, 10), 1);
        due("11 in a corner", flowsTo(0), 1);
        due("11 in a corner", flowsTo(0, 1), 10);
        due("11 in a corner", flowsTo(9), 8);
        due("11 in a corner", flowsTo(9, 8), 19);
        due("11 in a corner", flowsTo(50), 40);
        due("11 in a corner", flowsTo(50, 40), 51);
        due("11 in a corner", flowsTo(59), 49);
        due("11 in a corner", flowsTo(59, 49), 58);
        due("11 at a side", flowsTo(29, 19, 28), 39);
        due("11 at a side", flowsTo(30, 20, 31), 40);
        due("11 of like ones the least", flowsTo(34), 24);
        due("11 of like ones the least", flowsTo(34, 24), 33);
        due("11 of like ones the least", flowsTo(34, 24, 33), 35);
        due("11 of like ones the least", flowsTo(34, 24, 33, 35), 44);
        IceHouse x = new IceHouse();
        x.rates(0, 99);
        x.set(0, 0, 300);
        x.set(0, 3, 1);
        x.set(1, 0, 150);
        x.set(1, 3, 100);
        x.set(10, 0, 900);
        x.set(11, 0, 900);
        x.set(2, 0, 100);
        x.work(12);
        due("11 all at once: 51 * 1 * 99 / 10000", x.of(0, 3), 1);
        due("11 75 of 100: half of 150", x.of(1, 3), 25);
        due("11 by SURFACES as they were", x.of(2, 3), 75);
        due("11 nothing further", x.of(3, 3), 0);
    }

    private static void workLittle() {
        IceHouse x = new IceHouse();
        x.rates(0, 0);
        x.set(0, 3, 1);
        Checks.law(x, "fall 1 when rain = 1; snow 5; ice 7;");
        x.weather(0, 0, 1, 0);
        due("11 the unit that fell", x.work(1), 60);
        due("11 ICE under it stays", x.look(4), 100);
        Checks.law(x, "fall 1 when rain = 1; snow 5 when month = 2; ice 7;");
        x.weather(1, 0, 1, 0);
        due("11 the unit lies", x.work(1), 0);
        due("11 one unit of SNOW melts, no ICE", x.work(1), 60);
        due("11 ICE", x.work(1), 7);
        x.weather(4, 1, 1, 0);
        due("11 rain on ICE, where no SNOW lies", x.work(1), 60 + 7);
        due("11 WATER", x.look(4), 86);
    }

    private static void workBounds() {
        IceHouse x = new IceHouse();
        x.rates(0, 0);
        for (int t = 0; t < 12; t++) {
            x.weather(t, 0, 300, 0);
        }
        x.set(0, 3, 290);
        Checks.law(x, "fall rain;");
        due("11 years", x.work(24), 0);
        due("11 FIRN", x.of(0, 7), 3600);
        due("11 above 300 RUNS", x.work(12), 2600);
        due("11 in the last MONTH of the YEAR", x.run(35), 2600);
        due("11 not ahead", x.run(34), 0);
        due("11 ICE", x.of(0, 3), 300);
        due("11 ICE elsewhere", x.of(1, 3), 36);
        due("11 0", x.work(0), -1);
        due("11 -1", x.work(-1), -1);
        due("11 25", x.work(25), -1);
        for (int k = 0; k < 13; k++) {
            x.work(24);
        }
        due("11 348", x.look(0), 348);
        due("11 there are not so many", x.work(13), -1);
        due("11 nothing is done", x.look(0), 348);
        due("11 the last", x.work(12), 0);
        due("11 behind the last", x.work(1), -1);
        due("11 360", x.look(0), 360);
    }

    private static void run() {
        IceHouse x = new IceHouse();
        Checks.law(x, "fall month * 10;");
        x.rates(0, 0);
        for (int t = 0; t < 5; t++) {
            x.weather(t, 1, 0, 0);
        }
        due("12 in all", x.work(4), 60 * 60);
        due("12 first", x.run(0), 0);
        due("12 third", x.run(2), 1200);
        due("12 not yet", x.run(4), -1);
        due("12 -1", x.run(-1), -1);
        due("12 360", x.run(360), -1);
    }

    private static void look() {
        IceHouse x = new IceHouse();
        x.set(9, 0, 400);
        x.set(9, 3, 10);
        x.set(50, 0, 300);
        x.set(50, 3, 1);
        x.set(51, 0, 200);
        x.pole(3);
        x.gauge(0, 1, 1);
        x.gauge(0, 2, 1);
        x.weather(0, 40, 0, 0);
        Checks.law(x, "ice 30; fall 7;");
        due("13 CELLS with ICE", x.look(5), 2);
        due("13 least GROUND", x.look(6), 300);
        due("13 TELLINGS", x.look(7), 2);
        due("13 POLES", x.look(8), 1);
        x.work(1);
        due("13 now", x.look(0), 1);
        due("13 FELL", x.look(1), 420);
        due("13 RAN", x.look(2), 480);
        due("13 GIVEN", x.look(3), 1100);
        due("13 WATER", x.look(4), 1040);
        due("13 LOOSE is no ICE", x.look(5), 1);
        due("13 least GROUND now", x.look(6), 400);
        x.set(0, 0, 399);
        x.set(0, 3, 1);
        due("13 CELL 0 counts", x.look(5), 2);
        due("13 GROUND of CELL 0", x.look(6), 399);
        x.set(59, 3, 1);
        due("13 CELL 59 counts", x.look(5), 3);
        due("13 GROUND of CELL 59", x.look(6), 0);
        due("13 what 9", x.look(9), NO_FACT);
        due("13 what -1", x.look(-1), NO_FACT);
    }

    private static void pole() {
        IceHouse x = new IceHouse();
        due("14 -1", x.pole(-1), -1);
        due("14 60", x.pole(60), -1);
        for (int k = 0; k < 12; k++) {
            due("14 number", x.pole(59 - k / 2), k);
        }
        due("14 the 13th", x.pole(0), -1);
        due("14 POLES", x.look(8), 12);
        due("14 no TELLINGS", x.look(7), 0);
    }

    private static void read() {
        IceHouse x = new IceHouse();
        due("15 no POLE", x.read(0, 0, 0, 0, 0), false);
        x.pole(0);
        due("15 least", x.read(0, 0, 0, 0, 0), true);
        due("15 most", x.read(0, 359, 999, 999, 9999), true);
        due("15 day ahead", x.read(0, 0, 0, 0, 9998), false);
        due("15 day 10000", x.read(0, 0, 0, 0, 10000), false);
        due("15 pole -1", x.read(-1, 0, 0, 0, 9999), false);
        due("15 pole 1", x.read(1, 0, 0, 0, 9999), false);
        due("15 t -1", x.read(0, -1, 0, 0, 9999), false);
        due("15 t 360", x.read(0, 360, 0, 0, 9999), false);
        due("15 free -1", x.read(0, 0, -1, 0, 9999), false);
        due("15 free 1000", x.read(0, 0, 1000, 0, 9999), false);
        due("15 deep -1", x.read(0, 0, 0, -1, 9999), false);
        due("15 deep 1000", x.read(0, 0, 0, 1000, 9999), false);
        due("15 TELLINGS", x.look(7), 2);
        due("15 day -1", new IceHouse().gauge(0, 0, -1), false);
    }

    private static void pit() {
        IceHouse x = new IceHouse();
        due("16 least", x.pit(0, 0, 1, 5), true);
        due("16 most", x.pit(59, 359, 9, 5), true);
        due("16 weight 0", x.pit(0, 0, 0, 5), false);
        due("16 weight 10", x.pit(0, 0, 10, 5), false);
        due("16 cell -1", x.pit(-1, 0, 1, 5), false);
        due("16 cell 60", x.pit(60, 0, 1, 5), false);
        due("16 t -1", x.pit(0, -1, 1, 5), false);
        due("16 t 360", x.pit(0, 360, 1, 5), false);
        due("16 day ahead", x.pit(0, 0, 1, 4), false);
        due("16 TELLINGS", x.look(7), 2);
    }

    private static void gauge() {
        IceHouse x = new IceHouse();
        due("17 least", x.gauge(0, 0, 5), true);
        due("17 most", x.gauge(359, 9999999, 5), true);
        due("17 -1", x.gauge(0, -1, 5), false);
        due("17 10000000", x.gauge(0, 10000000, 5), false);
        due("17 t -1", x.gauge(-1, 0, 5), false);
        due("17 t 360", x.gauge(360, 0, 5), false);
        due("17 day ahead", x.gauge(0, 0, 4), false);
        due("17 TELLINGS", x.look(7), 2);
    }

    private static void map() {
        IceHouse x = new IceHouse();
        due("18 least", x.map(0, 0, 0, 5), true);
        due("18 most", x.map(2, 59, 1200, 5), true);
        due("18 k -1", x.map(-1, 0, 0, 5), false);
        due("18 k 3", x.map(3, 0, 0, 5), false);
        due("18 cell -1", x.map(0, -1, 0, 5), false);
        due("18 cell 60", x.map(0, 60, 0, 5), false);
        due("18 height -1", x.map(0, 0, -1, 5), false);
        due("18 height 1201", x.map(0, 0, 1201, 5), false);
        due("18 day ahead", x.map(0, 0, 0, 4), false);
        due("18 TELLINGS", x.look(7), 2);
    }

    private static void fourHundred() {
        IceHouse x = new IceHouse();
        x.pole(0);
        for (int k = 0; k < 100; k++) {
            x.pit(k % 60, k, 5, 1);
            x.gauge(k, k, 1);
            x.map(k % 3, k % 60, k, 1);
            x.read(0, k, k, 7, 1);
        }
        due("15 400", x.look(7), 400);
        due("15 there are 400", x.read(0, 0, 1, 1, 1), false);
        due("16 there are 400", x.pit(0, 0, 1, 1), false);
        due("17 there are 400", x.gauge(0, 9, 1), false);
        due("18 there are 400", x.map(0, 0, 9, 1), false);
        due("14 POLES do not count", x.pole(1), 1);
        due("15 stays", x.look(7), 400);
        due("20 the last", x.gauged(99, 1), 99);
        due("21 the last", x.mapped(0, 39, 1), 99);
        due("19 the last", x.reading(0, 99, 1, 0), 99);
        due("19 the last DEEP", x.reading(0, 99, 1, 1), 7);
    }

    private static void reading() {
        IceHouse x = new IceHouse();
        x.set(20, 0, 199);
        x.set(21, 0, 100);
        x.set(22, 0, 200);
        x.pole(20);
        x.read(0, 3, 11, 22, 4);
        x.read(0, 3, 33, 44, 6);
        x.read(0, 3, 55, 66, 6);
        x.pit(22, 3, 1, 7);
        due("19 FREE", x.reading(0, 3, 4, 0), 11);
        due("19 DEEP", x.reading(0, 3, 5, 1), 22);
        due("19 put right", x.reading(0, 3, 6, 0), 55);
        due("19 put right DEEP", x.reading(0, 3, 9999, 1), 66);
        due("19 not yet", x.reading(0, 3, 3, 0), -1);
        due("19 another MONTH", x.reading(0, 4, 9, 0), -1);
        due("19 another BAND's PIT", x.reading(0, 3, 9, 2), 2);
        due("19 without any", x.reading(0, 3, 9, 3), 6);
        x.pit(21, 3, 8, 8);
        x.pit(20, 3, 3, 8);
        x.pit(20, 4, 1, 8);
        x.pit(21, 3, 7, 9);
        due("19 least", x.reading(0, 3, 8, 2), 3);
        due("19 greatest", x.reading(0, 3, 8, 3), 8);
        due("19 greatest put right", x.reading(0, 3, 9, 3), 7);
        due("19 ahead of the PITS", x.reading(0, 3, 7, 3), 6);
        x.set(20, 0, 50);
        due("19 BAND of now", x.reading(0, 3, 9, 3), 3);
        due("19 what 4", x.reading(0, 3, 9, 4), -1);
        due("19 what -1", x.reading(0, 3, 9, -1), -1);
        due("19 pole 1", x.reading(1, 3, 9, 0), -1);
        due("19 pole -1", x.reading(-1, 3, 9, 0), -1);
        due("19 t -1", x.reading(0, -1, 9, 0), -1);
        due("19 t 360", x.reading(0, 360, 9, 0), -1);
        due("19 day -1", x.reading(0, 3, -1, 0), -1);
        due("19 day 10000", x.reading(0, 3, 10000, 0), -1);
    }

    private static void gauged() {
        IceHouse x = new IceHouse();
        x.gauge(359, 5, 2);
        x.gauge(359, 0, 3);
        due("20 first", x.gauged(359, 2), 5);
        due("20 later", x.gauged(359, 9999), 0);
        due("20 ahead", x.gauged(359, 1), -1);
        due("20 another", x.gauged(0, 3), -1);
        due("20 t -1", x.gauged(-1, 3), -1);
        due("20 t 360", x.gauged(360, 3), -1);
        due("20 day -1", x.gauged(359, -1), -1);
        due("20 day 10000", x.gauged(359, 10000), -1);
    }

    private static void mapped() {
        IceHouse x = new IceHouse();
        x.map(1, 59, 700, 2);
        x.map(1, 59, 0, 3);
        due("21 first", x.mapped(1, 59, 2), 700);
        due("21 later", x.mapped(1, 59, 9999), 0);
        due("21 ahead", x.mapped(1, 59, 1), -1);
        due("21 another MAP", x.mapped(0, 59, 3), -1);
        due("21 another CELL", x.mapped(1, 1, 3), -1);
        due("21 k -1", x.mapped(-1, 59, 3), -1);
        due("21 k 3", x.mapped(3, 59, 3), -1);
        due("21 cell -1", x.mapped(1, -1, 3), -1);
        due("21 cell 60", x.mapped(1, 60, 3), -1);
        due("21 day -1", x.mapped(1, 59, -1), -1);
        due("21 day 10000", x.mapped(1, 59, 10000), -1);
    }

    private static void gain() {
        IceHouse x = new IceHouse();
        x.pole(0);
        x.read(0, 5, 700, 30, 1);
        x.read(0, 8, 650, 80, 2);
        x.pit(1, 5, 3, 3);
        x.pit(2, 5, 4, 3);
        due("22 LOW: 450 + 80 * 2 - 30 * 4", x.gain(0, 5, 8, 3, 0), 490);
        due("22 HIGH: 450 + 80 * 6 - 30 * 3", x.gain(0, 5, 8, 3, 1), 840);
        due("22 back LOW: -450 + 30 * 3 - 80 * 6", x.gain(0, 8, 5, 3, 0), -840);
        due("22 back HIGH: -450 + 30 * 4 - 80 * 2", x.gain(0, 8, 5, 3, 1), -490);
        due("22 the same MONTH LOW", x.gain(0, 8, 8, 3, 0), -320);
        due("22 the same MONTH HIGH", x.gain(0, 8, 8, 3, 1), 320);
        due("22 known on day 2", x.gain(0, 5, 8, 2, 0), 450 + 160 - 180);
        due("22 not known on day 1", x.gain(0, 5, 8, 1, 0), NO_GAIN);
        due("22 no READING", x.gain(0, 5, 9, 3, 0), NO_GAIN);
        due("22 what 2", x.gain(0, 5, 8, 3, 2), NO_GAIN);
        due("22 what -1", x.gain(0, 5, 8, 3, -1), NO_GAIN);
        due("22 pole 1", x.gain(1, 5, 8, 3, 0), NO_GAIN);
        due("22 pole -1", x.gain(-1, 5, 8, 3, 0), NO_GAIN);
        due("22 a -1", x.gain(0, -1, 8, 3, 0), NO_GAIN);
        due("22 b 360", x.gain(0, 5, 360, 3, 0), NO_GAIN);
        due("22 day -1", x.gain(0, 5, 8, -1, 0), NO_GAIN);
        due("22 day 10000", x.gain(0, 5, 8, 10000, 0), NO_GAIN);
    }

    private static void gainOfTheLast() {
        IceHouse x = new IceHouse();
        x.set(0, 0, 900);
        x.set(59, 0, 999 - 99);
        for (int k = 0; k < 11; k++) {
            x.pole(k);
        }
        due("14 the twelfth", x.pole(59), 11);
        x.read(11, 0, 9, 1, 1);
        x.read(11, 359, 8, 2, 1);
        x.pit(0, 0, 5, 1);
        x.pit(59, 0, 4, 1);
        due("19 least of BAND 9", x.reading(11, 0, 1, 2), 4);
        due("19 greatest of BAND 9", x.reading(11, 0, 1, 3), 5);
        due("22 LOW of POLE 11: 9 + 2 * 2 - 5", x.gain(11, 0, 359, 1, 0), 8);
        due("22 HIGH of POLE 11: 9 + 2 * 6 - 4", x.gain(11, 0, 359, 1, 1), 17);
        due("22 POLE 10", x.gain(10, 0, 359, 1, 1), NO_GAIN);
        due("24 BAND 9", x.sum(0, 359, 1, 4), 1);
        x.set(20, 3, 1);
        due("25 BAND 0", x.next(0, 359, 1), 0);
        due("23 BAND 0 by BAND 9", x.value(0, 0, 359, 1, 2), 9);
    }

    /** A POLE with a GAIN of 9 times so much from MONTH 0 to 1, without a span. */
    private static int plainPole(IceHouse x, int cell, int gain) {
        int pole = x.pole(cell);
        x.read(pole, 0, 500, 0, 1);
        x.read(pole, 1, 500 - gain, 0, 1);
        return pole;
    }

    /** Four POLES in BANDS 2, 2, 6 and 6, and CELLS 10 c of BAND c. */
    private static IceHouse fourPoles() {
        IceHouse x = new IceHouse();
        for (int band = 0; band < 10; band++) {
            x.set(10 * (band / 2) + band, 0, 100 * band);
        }
        plainPole(x, 12, 10);
        plainPole(x, 12, -11);
        plainPole(x, 36, 20);
        plainPole(x, 36, 23);
        return x;
    }

    private static void value() {
        IceHouse x = fourPoles();
        due("23 LOW: -9 by 2 downwards", x.value(2, 0, 1, 1, 0), -5);
        due("23 HIGH: -9 by 2 upwards", x.value(2, 0, 1, 1, 1), -4);
        due("23 LOW: 387 by 2 downwards", x.value(6, 0, 1, 1, 0), 193);
        due("23 HIGH: 387 by 2 upwards", x.value(6, 0, 1, 1, 1), 194);
        int[] source = {2, 2, 2, 2, 2, 6, 6, 6, 6, 6};
        for (int band = 0; band < 10; band++) {
            due("23 from", x.value(band, 0, 1, 1, 2), source[band]);
            due("23 as the nearest", x.value(band, 0, 1, 1, 0), source[band] == 2 ? -5 : 193);
        }
        due("23 not known", x.value(2, 0, 1, 0, 0), NO_GAIN);
        due("23 no GAIN", x.value(2, 0, 2, 1, 2), NO_GAIN);
        due("23 band -1", x.value(-1, 0, 1, 1, 0), NO_GAIN);
        due("23 band 10", x.value(10, 0, 1, 1, 0), NO_GAIN);
        due("23 what 3", x.value(2, 0, 1, 1, 3), NO_GAIN);
        due("23 what -1", x.value(2, 0, 1, 1, -1), NO_GAIN);
        due("23 a 360", x.value(2, 360, 1, 1, 0), NO_GAIN);
        due("23 b -1", x.value(2, 0, -1, 1, 0), NO_GAIN);
        due("23 day 10000", x.value(2, 0, 1, 10000, 0), NO_GAIN);
    }

    private static void sum() {
        IceHouse x = fourPoles();
        due("24 no ICE", x.sum(0, 1, 1, 0), 0);
        x.set(0, 3, 5);
        x.set(1, 3, 300);
        x.set(24, 3, 1);
        x.set(25, 3, 1);
        due("24 LOW", x.sum(0, 1, 1, 0), 3 * -5 + 193);
        due("24 HIGH", x.sum(0, 1, 1, 1), 3 * -4 + 194);
        due("24 DOUBT LOW: without the first", x.sum(0, 1, 1, 2), 3 * -99 + 193);
        due("24 DOUBT HIGH: without the second", x.sum(0, 1, 1, 3), 3 * 90 + 194);
        due("24 POLES", x.sum(0, 1, 1, 4), 4);
        due("24 none has", x.sum(0, 2, 1, 0), NO_SUM);
        due("24 none has for 4", x.sum(0, 2, 1, 4), 0);
        due("24 what 5", x.sum(0, 1, 1, 5), NO_SUM);
        due("24 what -1", x.sum(0, 1, 1, -1), NO_SUM);
        due("24 a -1", x.sum(-1, 1, 1, 4), NO_SUM);
        due("24 b 360", x.sum(0, 360, 1, 4), NO_SUM);
        due("24 day -1", x.sum(0, 1, -1, 4), NO_SUM);
        due("24 day 10000", x.sum(0, 1, 10000, 4), NO_SUM);
        x.read(0, 3, 5, 0, 2);
        x.read(0, 4, 4, 0, 2);
        due("24 one POLE", x.sum(3, 4, 2, 0), 4 * 9);
        due("24 one POLE for 2", x.sum(3, 4, 2, 2), NO_SUM);
        due("24 one POLE for 3", x.sum(3, 4, 2, 3), NO_SUM);
        due("24 one POLE for 4", x.sum(3, 4, 2, 4), 1);
        IceHouse y = new IceHouse();
        y.set(59, 0, 900);
        y.set(59, 3, 1);
        plainPole(y, 0, 2);
        plainPole(y, 59, 3);
        due("24 of its own BAND", y.sum(0, 1, 1, 0), 27);
        due("24 left out: of the other BAND", y.sum(0, 1, 1, 2), 18);
        due("24 the other left out", y.sum(0, 1, 1, 3), 27);
    }

    private static void next() {
        IceHouse x = fourPoles();
        due("25 no ICE", x.next(0, 1, 1), -1);
        x.set(12, 3, 1);
        due("25 a POLE there", x.next(0, 1, 1), -1);
        x.set(49, 3, 1);
        due("25 BAND 9: 3 away", x.next(0, 1, 1), 9);
        x.set(24, 3, 1);
        due("25 BAND 4: 2 away", x.next(0, 1, 1), 9);
        x.set(26, 0, 450);
        x.set(26, 3, 1);
        due("25 two CELLS 2 away", x.next(0, 1, 1), 4);
        x.set(27, 0, 950 - 51);
        x.set(27, 3, 1);
        due("25 of several the lowest", x.next(0, 1, 1), 4);
        x.set(27, 0, 350);
        due("25 again", x.next(0, 1, 1), 4);
        due("25 no GAIN", x.next(0, 2, 1), -1);
        due("25 not known", x.next(0, 1, 0), -1);
        due("25 a -1", x.next(-1, 1, 1), -1);
        due("25 b 360", x.next(0, 360, 1), -1);
        due("25 day 10000", x.next(0, 1, 10000), -1);
        IceHouse y = new IceHouse();
        plainPole(y, 0, 1);
        y.set(9, 0, 200);
        y.set(9, 3, 1);
        y.set(8, 0, 100);
        y.set(8, 3, 1);
        y.set(7, 0, 100);
        y.set(7, 3, 1);
        due("25 2 times 1 is 1 times 2", y.next(0, 1, 1), 1);
    }

    private static void offset() {
        IceHouse x = new IceHouse();
        due("26 none", x.offset(0, 1, 1), NO_OFFSET);
        int[] rises = {40, -30, 7, 7, 1000};
        for (int k = 0; k < 5; k++) {
            x.map(0, k, 100, 1);
            due("26 one MAP alone", x.offset(0, 2, 1), k == 0 ? NO_OFFSET : k == 1 ? 40 : k == 2 ? -30 : 7);
            x.map(2, k, 100 + rises[k], 1);
        }
        due("26 of five the third", x.offset(0, 2, 1), 7);
        due("26 the other way", x.offset(2, 0, 1), -7);
        x.set(4, 3, 1);
        due("26 of four the second", x.offset(0, 2, 1), 7);
        x.set(2, 3, 1);
        due("26 of three the second", x.offset(0, 2, 1), 7);
        x.set(3, 3, 1);
        due("26 of two the first", x.offset(0, 2, 1), -30);
        x.map(2, 1, 130, 2);
        due("26 put right", x.offset(0, 2, 2), 30);
        due("26 as known", x.offset(0, 2, 1), -30);
        x.set(0, 3, 1);
        x.set(1, 3, 1);
        due("26 all with ICE", x.offset(0, 2, 2), NO_OFFSET);
        due("26 the same", x.offset(0, 0, 2), NO_OFFSET);
        due("26 i -1", x.offset(-1, 0, 2), NO_OFFSET);
        due("26 j 3", x.offset(0, 3, 2), NO_OFFSET);
        x.set(0, 3, 0);
        due("26 one", x.offset(0, 2, 2), 40);
        due("26 day -1", x.offset(0, 2, -1), NO_OFFSET);
        due("26 day 10000", x.offset(0, 2, 10000), NO_OFFSET);
        due("26 day 0", x.offset(0, 2, 0), NO_OFFSET);
    }

    private static void offsetOfAll() {
        IceHouse x = new IceHouse();
        for (int cell = 0; cell < 60; cell++) {
            x.map(1, cell, 600, 1);
            x.map(2, cell, 600 + cell * 7 % 60 - 20, 1);
        }
        due("26 of sixty the 30th", x.offset(1, 2, 1), 9);
        due("26 of sixty the 30th", x.offset(2, 1, 1), -10);
    }

    private static void parted() {
        IceHouse x = fourPoles();
        x.set(0, 3, 5);
        x.set(1, 3, 300);
        x.set(24, 3, 1);
        x.set(25, 3, 1);
        x.map(0, 0, 50, 1);
        x.map(1, 0, 40, 1);
        x.map(0, 1, 50, 1);
        x.map(1, 1, 90, 1);
        x.map(0, 24, 50, 1);
        x.map(1, 25, 50, 1);
        due("27 no OFFSET", x.parted(0, 1, 0, 1, 1), NO_SUM);
        x.map(0, 9, 50, 2);
        x.map(1, 9, 53, 2);
        due("27 LOW 178, HIGH 182, middle 180", x.parted(0, 1, 0, 1, 2), (30 - 6) * 100 - 180);
        due("27 the other way", x.parted(1, 0, 0, 1, 2), (-30 + 6) * 100 - 180);
        x.read(0, 1, 490, 1, 3);
        due("27 SUM LOW", x.sum(0, 1, 3, 0), 3 * -4 + 193);
        due("27 SUM HIGH", x.sum(0, 1, 3, 1), 3 * -1 + 194);
        due("27 middle", x.parted(0, 1, 0, 1, 3), 2400 - 186);
        x.set(25, 3, 0);
        due("27 LOW -12, HIGH -3: -8", x.parted(0, 1, 0, 1, 3), 2400 + 8);
        due("27 no SUM", x.parted(0, 1, 0, 2, 3), NO_SUM);
        due("27 the same", x.parted(1, 1, 0, 1, 3), NO_SUM);
        due("27 i 3", x.parted(3, 1, 0, 1, 3), NO_SUM);
        due("27 j -1", x.parted(0, -1, 0, 1, 3), NO_SUM);
        due("27 a -1", x.parted(0, 1, -1, 1, 3), NO_SUM);
        due("27 b 360", x.parted(0, 1, 0, 360, 3), NO_SUM);
        due("27 day 10000", x.parted(0, 1, 0, 1, 10000), NO_SUM);
    }

    private static void unlike() {
        IceHouse x = new IceHouse();
        x.rates(0, 0);
        x.weather(0, 1, 0, 0);
        x.weather(1, 1, 0, 0);
        Checks.law(x, "fall 3;");
        x.gauge(0, 189, 1);
        x.gauge(1, 170, 1);
        x.gauge(2, 1, 1);
        due("28 none WORKED", x.unlike(0, 1, 0), 0);
        due("28 none first", x.unlike(0, 1, 1), -1);
        x.work(2);
        due("28 both", x.unlike(0, 1, 0), 2);
        due("28 first", x.unlike(0, 1, 1), 0);
        due("28 180 * 5 by 100 is 9", x.unlike(5, 1, 0), 1);
        due("28 first beyond", x.unlike(5, 1, 1), 1);
        due("28 4", x.unlike(4, 1, 0), 2);
        due("28 6", x.unlike(6, 1, 0), 0);
        due("28 100", x.unlike(100, 1, 1), -1);
        x.gauge(0, 180, 2);
        due("28 put right", x.unlike(0, 2, 0), 1);
        due("28 as known", x.unlike(0, 1, 0), 2);
        due("28 day 0", x.unlike(0, 0, 0), 0);
        x.work(1);
        due("28 RUN 0", x.unlike(100, 1, 1), 2);
        due("28 -1", x.unlike(-1, 1, 0), -1);
        due("28 101", x.unlike(101, 1, 0), -1);
        due("28 what 2", x.unlike(0, 1, 2), -1);
        due("28 what -1", x.unlike(0, 1, -1), -1);
        due("28 day -1", x.unlike(0, -1, 0), -1);
        due("28 day 10000", x.unlike(0, 10000, 0), -1);
    }

    /** Two YEARS and a half: rain of 10 in the first and 20 in the second, in MONTH m by m more. */
    private static IceHouse twoYears() {
        IceHouse x = new IceHouse();
        x.rates(0, 0);
        for (int t = 0; t < 30; t++) {
            x.weather(t, 1, t < 12 ? 20 + t : t < 24 ? 10 + t % 12 : 0, 0);
        }
        Checks.law(x, "fall rain;");
        x.work(24);
        x.work(6);
        return x;
    }

    private static void foretell() {
        IceHouse x = twoYears();
        long water = x.look(4);
        due("29 MONTH 6 of YEAR 0", x.foretell(1, 0, 0), 26 * 60);
        due("29 MONTH 6 of YEAR 1", x.foretell(1, 1, 0), 16 * 60);
        due("29 over the end of the YEAR", x.foretell(8, 1, 0), 60 * (16 + 17 + 18 + 19 + 20 + 21 + 10 + 11));
        due("29 the least", x.foretell(8, 1, 1), 600);
        due("29 the least is the first", x.foretell(3, 1, 1), 960);
        due("29 of one", x.foretell(1, 1, 1), 960);
        due("29 WATER", x.foretell(8, 1, 2), water);
        due("29 nothing is done", x.look(0), 30);
        due("29 FELL stays", x.look(1), 60 * (12 * 20 + 66 + 12 * 10 + 66));
        due("29 YEAR 2 is not over", x.foretell(1, 2, 0), -1);
        due("29 y -1", x.foretell(1, -1, 0), -1);
        due("29 n 0", x.foretell(0, 0, 0), -1);
        due("29 n 25", x.foretell(25, 0, 0), -1);
        due("29 what 3", x.foretell(1, 0, 3), -1);
        due("29 what -1", x.foretell(1, 0, -1), -1);
        for (int k = 0; k < 13; k++) {
            x.work(24);
        }
        x.work(18);
        due("29 beyond MONTH 359", x.foretell(24, 0, 0), 2 * 60 * (240 + 66));
        due("29 the last YEAR", x.foretell(24, 29, 0), 0);
        due("29 YEAR 30", x.foretell(24, 30, 0), -1);
        IceHouse y = new IceHouse();
        y.rates(0, 0);
        Checks.law(y, "fall rain;");
        y.weather(0, 0, 150, 0);
        y.work(12);
        due("29 no YEAR but one", y.foretell(24, 1, 2), -1);
        due("29 snow lies and is pressed", y.foretell(24, 0, 2), 60 * 450);
        due("29 no ICE of it", y.of(0, 3), 0);
        due("29 now as it was", y.of(0, 6), 150);
        IceHouse z = new IceHouse();
        due("29 no YEAR", z.foretell(1, 0, 0), -1);
        z.work(11);
        due("29 11 MONTHS", z.foretell(1, 0, 0), -1);
    }

    private static void spread() {
        IceHouse x = twoYears();
        due("30 LEAST", x.spread(1, 0), 960);
        due("30 MOST", x.spread(1, 1), 1560);
        due("30 YEAR of LEAST", x.spread(1, 2), 1);
        due("30 YEAR of MOST", x.spread(1, 3), 0);
        due("30 24", x.spread(24, 1), 2 * 60 * 306);
        due("30 n 0", x.spread(0, 0), -1);
        due("30 n 25", x.spread(25, 0), -1);
        due("30 what 4", x.spread(1, 4), -1);
        due("30 what -1", x.spread(1, -1), -1);
        due("30 nothing is done", x.look(0), 30);
        x.work(6);
        due("30 YEAR 2 was", x.spread(7, 0), 0);
        due("30 YEAR 2 is LEAST", x.spread(7, 2), 2);
        x.work(12);
        due("30 of several the first", x.spread(7, 2), 2);
        due("30 MOST", x.spread(24, 3), 0);
        IceHouse z = new IceHouse();
        z.work(24);
        due("30 LEAST of like ones", z.spread(24, 2), 0);
        due("30 MOST of like ones", z.spread(24, 3), 0);
        due("30 none was", new IceHouse().spread(1, 0), -1);
        IceHouse y = new IceHouse();
        y.work(11);
        due("30 11 MONTHS", y.spread(1, 0), -1);
        y.work(1);
        due("30 one YEAR", y.spread(1, 3), 0);
    }
}
