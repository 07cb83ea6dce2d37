/** The edges of promises 5 to 8: the TAPE, THE LAW's text and its FAULTS. */
final class LawBoundaryTests extends Boundary {
    private static final int NONE = IceHouse.NONE;
    private static final String LETTERS = "letters as many as stand together are KEYWORDS"
        + " (fall snow ice when or and not warm rain dust height shade debris month lying) or none";
    private static final String DIGITS = "digits as many as stand together NUMBERS of 1 to 4 digits or none";
    private static final String STAND = "1 what can't stand there (the end: the text's length).";
    private static final String PART = "2 (at the NUMBER) a part by 0.";
    private static final String LINES = "3 (at fall, snow or ice) the 25th line";
    private static final String OPEN = "(at it) the 9th ( or not that is open.";
    private static final String ORDER = "FAULTS, the first by its place, at one place the least:";
    private static final String[] FACTS = {"warm", "rain", "dust", "height", "shade", "debris", "month", "lying"};

    public static void main(String[] args) throws Exception {
        run(LawBoundaryTests.class);
    }

    private static void feed(IceHouse x, int times, int due) {
        for (int k = 0; k < times; k++) {
            x.feed(0x20202020, 0x20202020, 0x20202020, 0x20202020, 0x20202020);
        }
        yes(x.end(due));
        no(x.end(due + 1));
    }

    private static void good(String text, int lines) {
        IceHouse x = new IceHouse();
        due(Checks.law(x, text), lines);
        due(x.fault(0), 0);
        due(x.fault(1), NONE);
    }

    private static void bad(String text, int fault, int place) {
        IceHouse x = new IceHouse();
        due(Checks.law(x, text), NONE);
        due(x.fault(0), fault);
        due(x.fault(1), place);
    }

    // ---- promise 5

    static void promise05TwentyBytesFromEmptyToFull() {
        sentence("Twenty bytes come behind the TAPE, of each number the highest first: how many it has.");
        IceHouse x = new IceHouse();
        for (int k = 1; k <= 40; k++) {
            due(x.feed(k, -k, 0, Integer.MIN_VALUE, Integer.MAX_VALUE), 20 * k);
        }
        due(x.feed(0, 0, 0, 0, 0), NONE);
        due(x.feed(0, 0, 0, 0, 0), NONE);
    }

    static void promise05MoreThan800() {
        sentence("NONE, and nothing comes, if there would be more than 800.");
        for (int has = 778; has <= 800; has++) {
            IceHouse x = new IceHouse();
            feed(x, 40, has);
            due(x.feed(0x33333333, 0x33333333, 0x33333333, 0x33333333, 0x33333333), has <= 780 ? has + 20 : NONE);
            int stands = has <= 780 ? has + 20 : has;
            no(x.end(stands + 1));
            yes(x.end(stands));
            due(x.law(), has <= 780 ? NONE : 0);
            due(x.fault(1), has <= 780 ? has : NONE);
        }
    }

    static void promise05NothingComesWhenRefused() {
        sentence("NONE, and nothing comes");
        IceHouse x = new IceHouse();
        Checks.tape(x, "fall 7;" + " ".repeat(774));
        due(x.feed(Checks.four(";ice", 0), Checks.four(" 5; ", 0), 0, 0, 0), NONE);
        no(x.end(782));
        yes(x.end(781));
        due(x.law(), 1);
        due(x.tells(0, 0), 7);
        due(x.tells(0, 2), 0);
        due(x.feed(0, 0, 0, 0, 0), 20);
    }

    static void promise05AfterTheTapeWasFull() {
        sentence("if there would be more than 800.");
        IceHouse x = new IceHouse();
        feed(x, 40, 800);
        due(x.feed(0, 0, 0, 0, 0), NONE);
        yes(x.end(780));
        due(x.feed(0, 0, 0, 0, 0), 800);
        due(x.law(), NONE);
        due(x.fault(1), 780);
        due(x.feed(0, 0, 0, 0, 0), 20);
    }

    static void promise05HighestByteFirst() {
        sentence("of each number the highest first");
        IceHouse x = new IceHouse();
        x.feed(Checks.four("fall", 0), Checks.four(" 12;", 0), Checks.four("snow", 0), Checks.four(" 34;", 0), Checks.four("ice9", 0));
        x.feed(Checks.four("87;\n", 0), 0x20202020, 0x20202020, 0x20202020, 0x20202020);
        due(x.law(), 3);
        due(x.tells(0, 0), 12);
        due(x.tells(0, 1), 34);
        due(x.tells(0, 2), 987);
    }

    static void promise05BytesFrom0To255() {
        sentence("of each number the highest first");
        for (int at = 0; at < 4; at++) {
            for (int b : new int[] {0, 127, 128, 255}) {
                IceHouse x = new IceHouse();
                int shift = 24 - 8 * at;
                x.feed(0x20202020 & ~(255 << shift) | b << shift, 0x20202020, 0x20202020, 0x20202020, 0x20202020);
                due(x.law(), NONE);
                due(x.fault(0), 1);
                due(x.fault(1), at);
            }
        }
    }

    // ---- promise 6

    static void promise06EmptyTape() {
        sentence("true; false, changing nothing, if it has not so many, or n is below 0.");
        IceHouse x = new IceHouse();
        edges(x, 0, 0, n -> x.end(n));
        due(x.feed(0, 0, 0, 0, 0), 20);
    }

    static void promise06NotSoMany() {
        sentence("false, changing nothing, if it has not so many, or n is below 0.");
        IceHouse x = new IceHouse();
        Checks.tape(x, "fall 1234;" + "ice 5; " + "   ");
        no(x.end(21));
        no(x.end(-1));
        no(x.end(Integer.MIN_VALUE));
        no(x.end(Integer.MAX_VALUE));
        yes(x.end(20));
        due(x.law(), 2);
        due(x.tells(0, 0), 1234);
        due(x.tells(0, 2), 5);
        no(x.end(1));
        yes(x.end(0));
    }

    static void promise06FirstBytesAlone() {
        sentence("The TAPE has its first n bytes alone");
        for (int n = 0; n <= 20; n++) {
            IceHouse x = new IceHouse();
            x.feed(Checks.four(";;;;", 0), Checks.four(";;;;", 0), Checks.four(";;;;", 0), Checks.four(";;;;", 0), Checks.four(";;;;", 0));
            yes(x.end(n));
            no(x.end(n + 1));
            yes(x.end(n));
            due(x.feed(0, 0, 0, 0, 0), n + 20);
        }
    }

    static void promise06CutBytesAreGone() {
        sentence("its first n bytes alone");
        IceHouse x = new IceHouse();
        Checks.tape(x, "fall 1299999;");
        yes(x.end(7));
        due(x.feed(0x3b202020, 0x20202020, 0x20202020, 0x20202020, 0x20202020), 27);
        due(x.law(), 1);
        due(x.tells(0, 0), 12);
        Checks.tape(x, "fall 1;");
        yes(x.end(0));
        due(x.law(), 0);
        due(x.tells(0, 0), 0);
    }

    // ---- promise 7

    static void promise07EmptyText() {
        sentence("{fall E [when B] ; | snow E [when B] ; | ice E [when B] ;}.");
        good("", 0);
        good(" ", 0);
        good("\n", 0);
        good(" \n".repeat(400), 0);
    }

    static void promise07From0To24Lines() {
        sentence("The TAPE, empty then, is THE LAW: how many lines.");
        String[] sorts = {"fall", "snow", "ice"};
        StringBuilder text = new StringBuilder();
        for (int lines = 1; lines <= 24; lines++) {
            text.append(sorts[lines % 3]).append(' ').append(lines).append(lines < 23 ? " when month=99;" : ";");
            good(text.toString(), lines);
        }
        IceHouse x = new IceHouse();
        Checks.law(x, text.toString());
        due(x.tells(0, 0), 24);
        due(x.tells(0, 1), 0);
        due(x.tells(0, 2), 23);
        text.append("ice 1;");
        bad(text.toString(), 3, text.length() - 6);
    }

    static void promise07TapeIsEmptyThen() {
        sentence("The TAPE, empty then, is THE LAW");
        IceHouse x = new IceHouse();
        due(Checks.law(x, "fall 1;"), 1);
        no(x.end(1));
        yes(x.end(0));
        due(x.feed(0, 0, 0, 0, 0), 20);
        due(x.law(), NONE);
        due(x.law(), 0);
    }

    static void promise07TapeIsEmptyAfterAFault() {
        sentence("NONE: a FAULT (the TAPE is empty then, too; all else stays).");
        IceHouse x = new IceHouse();
        due(Checks.law(x, "fall 1"), NONE);
        no(x.end(1));
        yes(x.end(0));
        due(x.feed(0x3b202020, 0, 0, 0, 0), 20);
        due(x.law(), NONE);
        due(x.fault(1), 0);
        due(x.feed(0, 0, 0, 0, 0), 20);
    }

    static void promise07AllElseStaysAfterAFault() {
        sentence("all else stays");
        String[] faults = {"?", "fall 1;snow 2;ice 3;fall 4", "fall 1/0;", "ice ((((((((1", "ice (((((((((1", "ice 1;".repeat(25), "snow 9;;"};
        for (String text : faults) {
            IceHouse x = new IceHouse();
            x.rates(3, 4);
            x.set(0, 3, 9);
            x.weather(0, 20, 30, 4);
            x.weather(1, 21, 31, 5);
            x.gauge(0, 5, 6);
            x.pole(7);
            Checks.law(x, "fall 50; snow 60; ice 70;");
            x.work(1);
            long[] stood = shot(x);
            due(Checks.law(x, text), NONE);
            yes(x.fault(0) > 0);
            due(x.tells(0, 0), 50);
            due(x.tells(0, 1), 60);
            due(x.tells(0, 2), 70);
            due(Checks.law(x, "fall 50; snow 60; ice 70;"), 3);
            stands(x, stood);
            due(x.work(1), 60 * 50 + 70);
        }
    }

    static void promise07LawInForceIsReplacedWhole() {
        sentence("is THE LAW: how many lines.");
        IceHouse x = new IceHouse();
        due(Checks.law(x, "fall 5; ice 6; snow 1 when 1 = 1;"), 3);
        due(Checks.law(x, "snow 7;"), 1);
        due(x.tells(0, 0), 0);
        due(x.tells(0, 1), 7);
        due(x.tells(0, 2), 0);
        due(x.law(), 0);
        due(x.tells(0, 1), 0);
    }

    static void promise07AFullTapeAgainAndAgain() {
        sentence("The TAPE, empty then, is THE LAW: how many lines.");
        IceHouse x = new IceHouse();
        for (int k = 1; k <= 4; k++) {
            due(Checks.law(x, "ice" + k + "+1".repeat(397) + ";"), 1);
            due(x.tells(0, 2), 397 + k);
            due(Checks.law(x, "ice 5" + "*2".repeat(396)), NONE);
            due(x.tells(0, 2), 397 + k);
        }
    }

    static void promise07SumsAndProductsOfOneAndOfMany() {
        sentence("E = T {(+ | -) T}. T = U {(* U | / NUMBER)}. U = NUMBER | warm | rain | dust | height | shade | debris | month | lying | ( E ).");
        good("fall 1;", 1);
        good("fall 1" + "+1".repeat(396) + ";", 1);
        good("fall 1" + "*1".repeat(396) + ";", 1);
        good("fall 1" + "/1".repeat(396) + ";", 1);
        good("fall 1" + "-1".repeat(396) + ";", 1);
        for (String fact : FACTS) {
            good("fall " + fact + ";", 1);
            good("fall 0+(" + fact + ")*" + fact + "/9-" + fact + " when " + fact + "<" + fact + ";", 1);
        }
        bad("fall +1;", 1, 5);
        bad("fall 1+;", 1, 7);
        bad("fall 1*;", 1, 7);
        bad("fall 1-+1;", 1, 7);
        bad("fall 1**1;", 1, 7);
        bad("fall ();", 1, 6);
        bad("fall (1;", 1, 7);
        bad("fall 1);", 1, 6);
        bad("fall (1+);", 1, 8);
        bad("fall 1 1;", 1, 7);
        bad("fall warm warm;", 1, 10);
        bad("fall 1 (2);", 1, 7);
    }

    static void promise07ConditionsOfOneAndOfMany() {
        sentence("B = A {or A}. A = C {and C}. C = E (< | = | >) E | not C.");
        good("fall 1 when 1<2;", 1);
        good("fall 1 when 1<2" + " or 1<2".repeat(112) + ";", 1);
        good("fall 1 when 1<2" + " and 1<2".repeat(98) + ";", 1);
        good("fall 1 when not 1=2 and not not 1>2 or not 3<4 and 5=5;", 1);
        bad("fall 1 when;", 1, 11);
        bad("fall 1 when 1;", 1, 13);
        bad("fall 1 when 1<;", 1, 14);
        bad("fall 1 when <1;", 1, 12);
        bad("fall 1 when 1<2<3;", 1, 15);
        bad("fall 1 when 1<=2;", 1, 14);
        bad("fall 1 when (1<2);", 1, 14);
        bad("fall 1 when 1<2 or;", 1, 18);
        bad("fall 1 when or 1<2;", 1, 12);
        bad("fall 1 when 1<2 and or 1<2;", 1, 20);
        bad("fall 1 when 1<2 not 1<2;", 1, 16);
        bad("fall 1 when 1<not 2;", 1, 14);
        bad("fall 1 when not;", 1, 15);
        bad("fall 1 when not 1;", 1, 17);
        bad("fall 1 when 1<2 when 1<2;", 1, 16);
        bad("fall not 1;", 1, 5);
        bad("fall 1<2;", 1, 6);
        bad("fall 1 or 2;", 1, 7);
        bad("fall 1 and 2;", 1, 7);
    }

    static void promise07LinesBeginAndEnd() {
        sentence("THE LAW is a TEXT = {fall E [when B] ; | snow E [when B] ; | ice E [when B] ;}.");
        good("fall 1;snow 1;ice 1;", 3);
        bad(";", 1, 0);
        bad("fall 1;;", 1, 7);
        bad("fall;", 1, 4);
        bad("fall when 1<2;", 1, 5);
        bad("1;", 1, 0);
        bad("warm;", 1, 0);
        bad("when 1<2;", 1, 0);
        bad("fall 1; rain 1;", 1, 8);
        bad("fall fall 1;", 1, 5);
        bad("fall 1 snow 1;", 1, 7);
        bad("fall 1 when 1<2 ice 1;", 1, 16);
    }

    // ---- promise 8

    static void promise08What() {
        sentence("Of the latest law(): what 0 the FAULT (0 without one), 1 its place (NONE). NONE for another what.");
        IceHouse x = new IceHouse();
        due(x.fault(0), 0);
        due(x.fault(1), NONE);
        due(x.fault(2), NONE);
        due(x.fault(-1), NONE);
        Checks.law(x, "fall 1/0;");
        due(x.fault(0), 2);
        due(x.fault(1), 7);
        asks(0, 1, NONE, what -> x.fault(what));
        due(x.law(), 0);
        due(x.fault(0), 0);
        due(x.fault(1), NONE);
    }

    static void promise08StandsUntilTheNextLaw() {
        sentence("Of the latest law()");
        IceHouse x = new IceHouse();
        Checks.law(x, " ?");
        Checks.tape(x, "fall 1;");
        due(x.fault(0), 1);
        due(x.fault(1), 1);
        x.work(12);
        x.end(3);
        due(x.fault(1), 1);
        due(x.law(), NONE);
        due(x.fault(1), 0);
    }

    static void promise08EndOfTheText() {
        sentence(STAND);
        String text = "fall (1 + warm) * 2 / 3 when not 1 < 2 and rain = dust or (1) > 2;";
        for (int end : new int[] {4, 6, 7, 9, 14, 15, 17, 19, 21, 23, 28, 32, 34, 36, 38, 42, 47, 49, 54, 57, 58, 59, 60, 61, 63, 65}) {
            bad(text.substring(0, end), 1, end);
            bad(text.substring(0, end) + "  ", 1, end + 2);
            bad(text.substring(0, end) + "\n", 1, end + 1);
        }
        good(text, 1);
        good(text + "  ", 1);
    }

    static void promise08EndOfAFullText() {
        sentence("(the end: the text's length)");
        String sum = "fall1" + "+1".repeat(397);
        bad(sum + " ", 1, 800);
        bad(sum + "+", 1, 800);
        good(sum + ";", 1);
        bad("fall 1;" + " ".repeat(792) + ";", 1, 799);
        bad("fall 1;" + " ".repeat(789) + "fall", 1, 800);
        bad(";".repeat(800), 1, 0);
        bad("(".repeat(800), 1, 0);
        bad("fall " + "(".repeat(795), 3, 13);
        bad("fall" + "9".repeat(796), 1, 4);
        bad("f".repeat(800), 1, 0);
    }

    static void promise08LettersStandTogether() {
        sentence(LETTERS);
        String[] words = {"fall", "snow", "ice", "when", "or", "and", "not", "warm", "rain", "dust", "height", "shade", "debris", "month", "lying"};
        for (int k = 0; k < words.length; k++) {
            String word = words[k];
            String ahead = k < 3 ? "" : k == 3 ? "ice 1 " : k < 6 ? "ice 1 when 1<2 " : k == 6 ? "ice 1 when " : "ice 1+";
            String behind = k < 3 ? " 1;" : k < 6 ? " 3<4;" : k == 6 ? " 1<2;" : ";";
            good(ahead + word + behind, 1);
            int at = ahead.length();
            bad(ahead + word.substring(1) + behind, 1, at);
            bad(ahead + word.substring(0, word.length() - 1) + behind, 1, at);
            bad(ahead + word + "s" + behind, 1, at);
            bad(ahead + "s" + word + behind, 1, at);
            bad(ahead + word + word + behind, 1, at);
            bad(ahead + word.substring(0, 1).toUpperCase() + word.substring(1) + behind, 1, at);
            bad(ahead + word.toUpperCase() + behind, 1, at);
            bad(ahead + word + "Z" + behind, 1, at);
        }
    }

    static void promise08LettersNextToDigitsAndSigns() {
        sentence("letters as many as stand together");
        good("fall1when1<2and3>2or warm=1;snow(2)when(1)=1;ice2;", 3);
        bad("fall 1when1<2orwarm=1;", 1, 13);
        bad("fallwarm;", 1, 0);
        bad("fall warmrain;", 1, 5);
        bad("fa ll 1;", 1, 0);
        bad("fall wa\nrm;", 1, 5);
        bad("fall " + "w".repeat(790) + ";", 1, 5);
    }

    static void promise08NumbersOf1To4Digits() {
        sentence(DIGITS);
        for (String number : new String[] {"0", "9", "00", "99", "000", "999", "0000", "9999", "0001"}) {
            IceHouse x = new IceHouse();
            due(Checks.law(x, "fall " + number + ";"), 1);
            due(x.tells(0, 0), Integer.parseInt(number));
        }
        for (String number : new String[] {"00000", "00001", "10000", "99999", "123456", "9".repeat(700)}) {
            bad("fall " + number + ";", 1, 5);
            bad("fall 1+" + number, 1, 7);
            bad("fall 1/" + number, 1, 7);
        }
        bad("fall 1 2;", 1, 7);
        bad("fall 12 34;", 1, 8);
        bad("fall 12\n34;", 1, 8);
        bad("fall 12.5;", 1, 7);
        bad("fall 12e5;", 1, 7);
    }

    static void promise08EverySign() {
        sentence("; + - * / ( ) < = > . Blanks (32, 10) between.");
        for (int sign = 0; sign < 256; sign++) {
            boolean joins = "+-*/".indexOf(sign) >= 0;
            boolean goesOn = sign == 32 || sign == 10 || sign == ';';
            String text = "fall 1 " + (char) sign + " 1;";
            if (joins) {
                good(text, 1);
            } else {
                bad(text, 1, goesOn ? 9 : 7);
            }
        }
    }

    static void promise08EverySignBetween() {
        sentence("Blanks (32, 10) between.");
        for (int sign = 0; sign < 256; sign++) {
            String s = "" + (char) sign;
            boolean blank = sign == 32 || sign == 10;
            if (blank) {
                good(s + "fall" + s + "1" + s + "+" + s + "2" + s + ";" + s, 1);
            } else {
                bad("fall 1;" + s, 1, 7);
            }
            if (blank || sign == '(') {
                bad("fall" + s, 1, 5);
            } else {
                boolean letter = sign >= 'a' && sign <= 'z' || sign >= 'A' && sign <= 'Z';
                boolean digit = sign >= '0' && sign <= '9';
                bad("fall" + s, 1, letter ? 0 : digit ? 5 : 4);
            }
        }
    }

    static void promise08PartBy0() {
        sentence(PART);
        bad("fall 1/0;", 2, 7);
        bad("fall 1 / 00;", 2, 9);
        bad("fall 1 / 000;", 2, 9);
        bad("fall 1 / 0000;", 2, 9);
        bad("fall 1 / 0", 2, 9);
        bad("fall (2*3/0", 2, 10);
        bad("fall 1 when 1 < 2/0;", 2, 18);
        bad("fall 0 when 0 / 0 = 0;", 2, 16);
        good("fall 1 / 1;", 1);
        good("fall 1 / 0001;", 1);
        good("fall 1 / 9999;", 1);
        good("fall 0 / 10;", 1);
        good("fall 1 * 0 + 0 - 0;", 1);
        bad("fall 1 / 00000;", 1, 9);
        bad("fall 1 / ;", 1, 9);
        bad("fall 1 / warm;", 1, 9);
        bad("fall 1 / (2);", 1, 9);
        bad("fall 1 / -2;", 1, 9);
        bad("fall 1 / / 0;", 1, 9);
    }

    static void promise08The25thLine() {
        sentence(LINES);
        String lines = "snow 1;ice 2;fall 3;".repeat(8);
        good(lines, 24);
        for (String sort : new String[] {"fall", "snow", "ice"}) {
            bad(lines + sort + " 1;", 3, 160);
            bad(lines + sort, 3, 160);
            bad(lines + "\n " + sort + " /", 3, 162);
        }
        bad(lines + "falls 1;", 1, 160);
        bad(lines + "when 1<2;", 1, 160);
        bad(lines + ";", 1, 160);
        bad(lines + "7", 1, 160);
        bad(lines.substring(0, 159) + "fall 1;", 1, 159);
        bad(lines.substring(0, 153) + "fall 1/0;fall 1;", 2, 160);
        bad(lines.substring(0, 153) + "fall 1 fall 1;", 1, 160);
    }

    static void promise08The9thBracketThatIsOpen() {
        sentence(OPEN);
        good("fall " + "(".repeat(8) + "1" + ")".repeat(8) + ";", 1);
        bad("fall " + "(".repeat(9) + "1" + ")".repeat(9) + ";", 3, 13);
        bad("fall " + "(".repeat(9), 3, 13);
        bad("fall " + "(".repeat(8), 1, 13);
        bad("fall " + "( ".repeat(20), 3, 21);
        good("fall " + "(1)+".repeat(9) + "((((((((1))))))));", 1);
        good("fall " + "(".repeat(8) + "1" + ")".repeat(8) + "*" + "(".repeat(8) + "2" + ")".repeat(8) + ";", 1);
        good("fall " + "(".repeat(7) + "(1)+(2)" + ")".repeat(7) + ";", 1);
        bad("fall " + "(".repeat(7) + "(1)+((2))" + ")".repeat(7) + ";", 3, 17);
        bad("fall 1+" + "(1+".repeat(9), 3, 31);
        bad("fall 1;ice 2;snow " + "(".repeat(9), 3, 26);
        good("fall 1 when ((((((((1)))))))) < ((((((((2))))))));", 1);
        bad("fall 1 when (((((((((1 < 2;", 3, 20);
        bad("fall 1 when 1 < (((((((((2;", 3, 24);
    }

    static void promise08The9thNotThatIsOpen() {
        sentence(OPEN);
        good("ice 1 when " + "not ".repeat(8) + "1<2;", 1);
        bad("ice 1 when " + "not ".repeat(9) + "1<2;", 3, 43);
        bad("ice 1 when " + "not ".repeat(9), 3, 43);
        bad("ice 1 when " + "not ".repeat(8), 1, 43);
        bad("ice 1 when " + "not ".repeat(8) + "(1)<2;", 3, 43);
        bad("ice 1 when " + "not ".repeat(8) + "1<(2);", 3, 45);
        good("ice 1 when " + "not ".repeat(7) + "(1)<(2);", 1);
        bad("ice 1 when " + "not ".repeat(7) + "(1)<((2));", 3, 44);
        good("ice 1 when not (((((((1)))))))<(((((((2)))))));", 1);
        bad("ice 1 when not ((((((((1))))))))<2;", 3, 22);
        bad("ice 1 when not 1<((((((((2))))))));", 3, 24);
    }

    static void promise08NotsThatAreClosed() {
        sentence("the 9th ( or not that is open.");
        good("ice 1 when " + "not not not 1<2 and ".repeat(9) + "((((((((1))))))))<2;", 1);
        good("ice 1 when " + "not 1<2 or ".repeat(20) + "not not not not not not not not 1<2;", 1);
        good("ice 1 when not not not not not not not not 1<2;ice ((((((((1)))))))) when not not not not not not not not 1<2;", 2);
        bad("ice 1 when not 1<2 and " + "not ".repeat(9) + "1<2;", 3, 55);
    }

    static void promise08TheFirstByItsPlace() {
        sentence(ORDER);
        bad("fall 1/0/0;", 2, 7);
        bad("fall x/0;", 1, 5);
        bad("fall 1/0 x;", 2, 7);
        bad("fall 1 x /0;", 1, 7);
        bad("fall (((((((((1/0;", 3, 13);
        bad("fall 1/0+(((((((((1;", 2, 7);
        bad("ice 1;".repeat(24) + "ice 1/0;", 3, 144);
        bad("ice 1;".repeat(23) + "ice 1/0;ice 1;ice 1;", 2, 144);
        bad("fall 1 2 " + "?".repeat(50), 1, 7);
    }

    static void promise08AtOnePlaceTheLeast() {
        sentence("at one place the least:");
        bad("fall ((((((((1(", 1, 14);
        bad("ice 1 when " + "not ".repeat(8) + "1 not", 1, 45);
        bad("ice 1;".repeat(23) + "ice 1 ice 1;", 1, 144);
        bad("fall 1/00000;", 1, 7);
        bad("ice 1;".repeat(24) + "not", 1, 144);
        bad("ice 1;".repeat(24) + "(", 1, 144);
        bad("fall 1/(((((((((1", 1, 7);
    }
}
