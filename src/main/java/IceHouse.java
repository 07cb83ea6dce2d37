/** A house for the ice of a mountain; ../shared/DOC.md says what each call answers. */
public final class IceHouse {
    public static final int NONE = -1;

    private static final int CELLS = 60;
    private static final int WIDTH = 10;
    private static final int ROWS = 6;
    private static final int BANDS = 10;
    private static final int MONTHS = 360;
    private static final int YEAR = 12;
    private static final int SPAN_MOST = 24;
    private static final int STEP = 100;
    private static final int ICE_MOST = 300;
    private static final int TOLD_MOST = 9999;
    private static final int POLES = 12;
    private static final int MAPS = 3;
    private static final int TELLINGS = 400;
    private static final int DAY_MOST = 9999;
    private static final int TAPE_MOST = 800;
    private static final int LINES = 24;
    private static final int OPEN_MOST = 8;

    private static final int NO_FACT = NONE - 999;
    private static final int NO_GAIN = NONE - 999999;
    private static final int NO_SUM = NONE - 99999999;
    private static final int NO_OFFSET = NONE - 9999;

    /** The most that GROUND, SHADE, DEBRIS and ICE can be told. */
    private static final int[] SET_MOST = {900, 9, 50, 300};

    // Neighbours in the order of their numbers, so that the first of like ones is the least.
    private static final int[] ASIDE = {0, -1, 1, 0};
    private static final int[] ALONG = {-1, 0, 0, 1};

    // A sign is its own token; the others stand where no sign of the law does.
    private static final int END = 1;
    private static final int STRANGE = 2;
    private static final int NUMBER = 3;
    private static final int FALL = 128;
    private static final int SNOW = 129;
    private static final int ICE = 130;
    private static final int WHEN = 131;
    private static final int OR = 132;
    private static final int AND = 133;
    private static final int NOT = 134;
    private static final int WARM = 135;
    private static final int RAIN = 136;
    private static final int DUST = 137;
    private static final int HEIGHT = 138;
    private static final int SHADE = 139;
    private static final int DEBRIS = 140;
    private static final int MONTH = 141;
    private static final int LYING = 142;
    private static final int FACTS = 8;

    private static final int WORD_SIZE = 6;
    private static final int NUMBER_SIZE = 4;
    /** The keywords from FALL to LYING in their order, each in WORD_SIZE places. */
    private static final String WORDS = "fall  snow  ice   when  or    and   not   warm  rain  dust  heightshade debrismonth lying ";
    private static final String SIGNS = ";+-*/()<=>";

    private static final int FAULT_PLACE = 1;
    private static final int FAULT_PART = 2;
    private static final int FAULT_MANY = 3;

    private static final int A_READING = 0;
    private static final int A_PIT = 1;
    private static final int A_GAUGE = 2;
    private static final int A_HEIGHT = 3;

    private final Sky sky;
    private final Glacier glacier;
    private final Tape tape;
    private final Law law;
    private final LawReader reader;
    private final Tellings tellings;
    private final Balance balance;
    private final Maps maps;
    private final Forecast forecast;
    private final int[] runs;
    private final int[] gauges;
    private int now;
    private long ran;
    private long given;

    public IceHouse() {
        sky = new Sky();
        glacier = new Glacier();
        tape = new Tape();
        law = new Law();
        reader = new LawReader(tape);
        tellings = new Tellings();
        balance = new Balance();
        maps = new Maps();
        forecast = new Forecast();
        runs = new int[MONTHS];
        gauges = new int[MONTHS];
        now = 0;
        ran = 0;
        given = 0;
    }

    public boolean set(int cell, int what, int v) {
        if (!isCell(cell) || !within(what, 0, SET_MOST.length - 1) || !within(v, 0, SET_MOST[what])) {
            return false;
        }
        long ahead = glacier.water();
        glacier.putFact(cell, what, v);
        given += glacier.water() - ahead;
        return true;
    }

    public boolean weather(int t, int warm, int fall, int dust) {
        if (!within(t, now, MONTHS - 1)) {
            return false;
        }
        return sky.putMonth(t, warm, fall, dust);
    }

    public boolean rates(int lapse, int flow) {
        return sky.putRates(lapse, flow);
    }

    public int feed(int a, int b, int c, int d, int e) {
        if (tape.length > TAPE_MOST - 20) {
            return NONE;
        }
        tape.append(a);
        tape.append(b);
        tape.append(c);
        tape.append(d);
        tape.append(e);
        return tape.length;
    }

    public boolean end(int n) {
        if (!within(n, 0, tape.length)) {
            return false;
        }
        tape.length = n;
        return true;
    }

    public int law() {
        boolean told = reader.readLaw();
        tape.length = 0;
        if (!told) {
            return NONE;
        }
        law.copyFrom(reader.draft);
        return law.lines;
    }

    public int fault(int what) {
        if (what == 0) {
            return reader.fault;
        }
        return what == 1 ? reader.faultPlace : NONE;
    }

    public int of(int cell, int what) {
        return isCell(cell) ? glacier.factOf(cell, what) : NONE;
    }

    public int tells(int cell, int what) {
        if (!isCell(cell) || !within(what, 0, 3) || !isMonth(now)) {
            return NO_FACT;
        }
        int[] facts = glacier.factsAt(cell, sky, now);
        return what == 3 ? facts[0] : law.tellOf(FALL + what, facts);
    }

    public int work(int months) {
        if (!within(months, 1, SPAN_MOST) || now + months > MONTHS) {
            return NONE;
        }
        int total = 0;
        for (int k = 0; k < months && isMonth(now); k++) {
            int run = glacier.workMonth(law, sky, now);
            runs[now] = run;
            total += run;
            now++;
        }
        ran += total;
        return total;
    }

    public int run(int t) {
        return within(t, 0, now - 1) && t < runs.length ? runs[t] : NONE;
    }

    public long look(int what) {
        switch (what) {
            case 0: return now;
            case 1: return glacier.fell;
            case 2: return ran;
            case 3: return given;
            case 4: return glacier.water();
            case 5: return glacier.countIcy();
            case 6: return glacier.leastIcyGround();
            case 7: return tellings.count;
            case 8: return balance.poles;
            default: return NO_FACT;
        }
    }

    public int pole(int cell) {
        return isCell(cell) ? balance.addPole(cell) : NONE;
    }

    public boolean read(int pole, int t, int free, int deep, int day) {
        if (!isPole(pole) || !isMonth(t) || !within(free, 0, 999) || !within(deep, 0, 999)) {
            return false;
        }
        return tellings.add(A_READING, pole, t, free, deep, day);
    }

    public boolean pit(int cell, int t, int weight, int day) {
        if (!isCell(cell) || !isMonth(t) || !within(weight, 1, 9)) {
            return false;
        }
        return tellings.add(A_PIT, cell, t, weight, 0, day);
    }

    public boolean gauge(int t, int amount, int day) {
        if (!isMonth(t) || !within(amount, 0, 9999999)) {
            return false;
        }
        return tellings.add(A_GAUGE, t, 0, amount, 0, day);
    }

    public boolean map(int k, int cell, int height, int day) {
        if (!isMap(k) || !isCell(cell) || !within(height, 0, 1200)) {
            return false;
        }
        return tellings.add(A_HEIGHT, cell, k, height, 0, day);
    }

    public int reading(int pole, int t, int day, int what) {
        if (!isPole(pole) || !isMonth(t) || !isDay(day) || !within(what, 0, 3)) {
            return NONE;
        }
        int found = tellings.latest(A_READING, pole, t, day);
        if (found == NONE) {
            return NONE;
        }
        if (what < 2) {
            return what == 0 ? tellings.firstOf(found) : tellings.secondOf(found);
        }
        return balance.weightOf(pole, glacier, tellings, t, day, what == 3);
    }

    public int gauged(int t, int day) {
        if (!isMonth(t) || !isDay(day)) {
            return NONE;
        }
        return tellings.firstOf(tellings.latest(A_GAUGE, t, 0, day));
    }

    public int mapped(int k, int cell, int day) {
        if (!isMap(k) || !isCell(cell) || !isDay(day)) {
            return NONE;
        }
        return tellings.firstOf(tellings.latest(A_HEIGHT, cell, k, day));
    }

    public int gain(int pole, int a, int b, int day, int what) {
        if (!isPole(pole) || !within(what, 0, 1) || !weigh(a, b, day)) {
            return NO_GAIN;
        }
        return balance.gainOf(pole, what == 1);
    }

    public int value(int band, int a, int b, int day, int what) {
        if (!within(band, 0, BANDS - 1) || !within(what, 0, 2) || !weigh(a, b, day)) {
            return NO_GAIN;
        }
        int source = balance.nearestBand(band);
        if (source == NONE) {
            return NO_GAIN;
        }
        return what == 2 ? source : balance.meanOf(source, what == 1);
    }

    public int sum(int a, int b, int day, int what) {
        if (!within(what, 0, 4) || !weigh(a, b, day)) {
            return NO_SUM;
        }
        if (what == 4) {
            return balance.gains;
        }
        if (what < 2) {
            return balance.gains > 0 ? balance.total(what == 1) : NO_SUM;
        }
        return balance.gains > 1 ? balance.doubt(what == 3) : NO_SUM;
    }

    public int next(int a, int b, int day) {
        return weigh(a, b, day) ? balance.mostMissed() : NONE;
    }

    public int offset(int i, int j, int day) {
        return areMaps(i, j) && isDay(day) ? maps.shift(i, j, day, tellings, glacier) : NO_OFFSET;
    }

    public int parted(int i, int j, int a, int b, int day) {
        if (!areMaps(i, j) || !weigh(a, b, day) || balance.gains == 0) {
            return NO_SUM;
        }
        int shift = maps.shift(i, j, day, tellings, glacier);
        if (shift == NO_OFFSET) {
            return NO_SUM;
        }
        int middle = Math.floorDiv(balance.total(false) + balance.total(true), 2);
        return maps.rise(shift, glacier) * STEP - middle;
    }

    public int unlike(int hundredths, int day, int what) {
        if (!within(hundredths, 0, 100) || !isDay(day) || !within(what, 0, 1)) {
            return NONE;
        }
        tellings.gather(A_GAUGE, 0, day, gauges);
        int count = 0;
        int first = NONE;
        for (int t = 0; t < MONTHS && t < now; t++) {
            if (gauges[t] != NONE && isOff(tellings.firstOf(gauges[t]), runs[t], hundredths)) {
                first = count == 0 ? t : first;
                count++;
            }
        }
        return what == 0 ? count : first;
    }

    public long foretell(int n, int y, int what) {
        if (!within(n, 1, SPAN_MOST) || !within(y, 0, now / YEAR - 1) || !within(what, 0, 2)) {
            return NONE;
        }
        forecast.make(glacier, law, sky, now, n, y);
        if (what == 2) {
            return forecast.trial.water();
        }
        return what == 0 ? forecast.total : forecast.least;
    }

    public int spread(int n, int what) {
        if (!within(n, 1, SPAN_MOST) || !within(what, 0, 3) || now < YEAR) {
            return NONE;
        }
        boolean most = what == 1 || what == 3;
        int best = 0;
        int year = NONE;
        for (int y = 0; y < now / YEAR; y++) {
            forecast.make(glacier, law, sky, now, n, y);
            int total = forecast.total;
            if (year == NONE || (most ? total > best : total < best)) {
                best = total;
                year = y;
            }
        }
        return what < 2 ? best : year;
    }

    /** Weighs all poles from a to b; false if a month or the day can't be. */
    private boolean weigh(int a, int b, int day) {
        if (!isMonth(a) || !isMonth(b) || !isDay(day)) {
            return false;
        }
        balance.weighPoles(glacier, tellings, a, b, day);
        return true;
    }

    private boolean isPole(int pole) {
        return within(pole, 0, balance.poles - 1);
    }

    private static boolean isOff(int gauged, int run, int hundredths) {
        long part = (long) run * hundredths / 100;
        return Math.abs((long) gauged - run) > part;
    }

    private static boolean areMaps(int i, int j) {
        return isMap(i) && isMap(j) && i != j;
    }

    private static boolean isMap(int k) {
        return within(k, 0, MAPS - 1);
    }

    private static boolean isCell(int cell) {
        return cell >= 0 && cell < CELLS;
    }

    private static boolean isMonth(int t) {
        return t >= 0 && t < MONTHS;
    }

    private static boolean isDay(int day) {
        return within(day, 0, DAY_MOST);
    }

    private static boolean within(int v, int least, int most) {
        return v >= least && v <= most;
    }

    /** The WEATHER of all MONTHS, and the two RATES. */
    private static final class Sky {
        private final int[] warm = new int[MONTHS];
        private final int[] fall = new int[MONTHS];
        private final int[] dust = new int[MONTHS];
        private int lapse = 6;
        private int flow = 10;

        private boolean putMonth(int t, int warmth, int fallen, int dirt) {
            if (!isMonth(t) || !within(warmth, -40, 40) || !within(fallen, 0, 300) || !within(dirt, 0, 9)) {
                return false;
            }
            warm[t] = warmth;
            fall[t] = fallen;
            dust[t] = dirt;
            return true;
        }

        private boolean putRates(int cooling, int speed) {
            if (!within(cooling, 0, 9) || !within(speed, 0, 99)) {
                return false;
            }
            lapse = cooling;
            flow = speed;
            return true;
        }
    }

    /** All CELLS, and how a MONTH is worked on them. */
    private static final class Glacier {
        private final int[] ground = new int[CELLS];
        private final int[] shade = new int[CELLS];
        private final int[] debris = new int[CELLS];
        private final int[] ice = new int[CELLS];
        private final int[] loose = new int[CELLS];
        private final int[] fresh = new int[CELLS];
        private final int[] old = new int[CELLS];
        private final int[] firn = new int[CELLS];
        private final int[] moved = new int[CELLS];
        private final int[] facts = new int[FACTS];
        private long fell = 0;

        private void copyFrom(Glacier other) {
            for (int cell = 0; cell < CELLS; cell++) {
                ground[cell] = other.ground[cell];
                shade[cell] = other.shade[cell];
                debris[cell] = other.debris[cell];
                ice[cell] = other.ice[cell];
                loose[cell] = other.loose[cell];
                fresh[cell] = other.fresh[cell];
                old[cell] = other.old[cell];
                firn[cell] = other.firn[cell];
            }
            fell = other.fell;
        }

        private void putFact(int cell, int what, int v) {
            if (!isCell(cell)) {
                return;
            }
            switch (what) {
                case 0: ground[cell] = v; break;
                case 1: shade[cell] = v; break;
                case 2: debris[cell] = v; break;
                case 3: ice[cell] = v; break;
                default: break;
            }
        }

        private int factOf(int cell, int what) {
            if (!isCell(cell)) {
                return NONE;
            }
            switch (what) {
                case 0: return ground[cell];
                case 1: return shade[cell];
                case 2: return debris[cell];
                case 3: return ice[cell];
                case 4: return loose[cell];
                case 5: return fresh[cell];
                case 6: return old[cell];
                case 7: return firn[cell];
                case 8: return surface(cell);
                case 9: return band(cell);
                default: return NONE;
            }
        }

        private int surface(int cell) {
            return isCell(cell) ? ground[cell] + ice[cell] : 0;
        }

        private int band(int cell) {
            return isCell(cell) ? ground[cell] / 100 : NONE;
        }

        private int lying(int cell) {
            return isCell(cell) ? fresh[cell] + old[cell] + firn[cell] : 0;
        }

        private boolean isIcy(int cell) {
            return isCell(cell) && ice[cell] > 0;
        }

        private long water() {
            long all = 0;
            for (int cell = 0; cell < CELLS; cell++) {
                all += (long) STEP * ice[cell] + loose[cell] + lying(cell);
            }
            return all;
        }

        private int countIcy() {
            int count = 0;
            for (int cell = 0; cell < CELLS; cell++) {
                count += isIcy(cell) ? 1 : 0;
            }
            return count;
        }

        private int leastIcyGround() {
            int least = NONE;
            for (int cell = 0; cell < CELLS; cell++) {
                if (isIcy(cell) && (least == NONE || ground[cell] < least)) {
                    least = ground[cell];
                }
            }
            return least;
        }

        /** What THE LAW can ask at a CELL, in the order of its keywords from WARM to LYING. */
        private int[] factsAt(int cell, Sky sky, int t) {
            if (isCell(cell) && isMonth(t)) {
                facts[0] = sky.warm[t] - Math.floorDiv(surface(cell) * sky.lapse, 100);
                facts[RAIN - WARM] = sky.fall[t];
                facts[DUST - WARM] = sky.dust[t];
                facts[HEIGHT - WARM] = surface(cell);
                facts[SHADE - WARM] = shade[cell];
                facts[DEBRIS - WARM] = debris[cell];
                facts[MONTH - WARM] = t % YEAR;
                facts[LYING - WARM] = lying(cell);
            }
            return facts;
        }

        /** Works a MONTH with the WEATHER of MONTH t: its RUN. */
        private int workMonth(Law law, Sky sky, int t) {
            int run = 0;
            for (int cell = 0; cell < CELLS; cell++) {
                run += workCell(cell, law, sky, t);
            }
            if (t % YEAR == YEAR - 1) {
                pressSnow();
                flowIce(sky.flow);
                run += breakIce();
            }
            return run;
        }

        private int workCell(int cell, Law law, Sky sky, int t) {
            factsAt(cell, sky, t);
            boolean stays = facts[0] <= 0;
            int falls = law.tellOf(FALL, facts);
            // The law is asked ahead of the fall, but whether snow lies is seen behind it.
            boolean covered = lying(cell) > 0 || (stays && falls > 0);
            int melts = law.tellOf(covered ? SNOW : ICE, facts);
            fell += falls;
            if (stays) {
                fresh[cell] += falls;
            }
            return (stays ? 0 : falls) + (covered ? meltSnow(cell, melts) : meltIce(cell, melts));
        }

        private int meltSnow(int cell, int most) {
            if (!isCell(cell)) {
                return 0;
            }
            int left = most;
            int part = Math.min(left, fresh[cell]);
            fresh[cell] -= part;
            left -= part;
            part = Math.min(left, old[cell]);
            old[cell] -= part;
            left -= part;
            part = Math.min(left, firn[cell]);
            firn[cell] -= part;
            left -= part;
            return most - left;
        }

        private int meltIce(int cell, int most) {
            if (!isCell(cell)) {
                return 0;
            }
            int all = STEP * ice[cell] + loose[cell];
            int part = Math.min(most, all);
            ice[cell] = (all - part) / STEP;
            loose[cell] = (all - part) % STEP;
            return part;
        }

        private void pressSnow() {
            for (int cell = 0; cell < CELLS; cell++) {
                int all = loose[cell] + firn[cell];
                ice[cell] += all / STEP;
                loose[cell] = all % STEP;
                firn[cell] = old[cell];
                old[cell] = fresh[cell];
                fresh[cell] = 0;
            }
        }

        private void flowIce(int flow) {
            for (int cell = 0; cell < CELLS; cell++) {
                moved[cell] = 0;
            }
            for (int cell = 0; cell < CELLS; cell++) {
                int to = lowestNeighbour(cell);
                int drop = surface(cell) - surface(to);
                if (isCell(to) && isIcy(cell) && drop > 0) {
                    int steps = (int) ((long) drop * ice[cell] * flow / 10000);
                    steps = Math.min(steps, Math.min(drop / 2, ice[cell]));
                    moved[cell] -= steps;
                    moved[to] += steps;
                }
            }
            for (int cell = 0; cell < CELLS; cell++) {
                ice[cell] += moved[cell];
            }
        }

        private int lowestNeighbour(int cell) {
            int best = NONE;
            for (int k = 0; k < ASIDE.length && k < ALONG.length; k++) {
                int x = cell % WIDTH + ASIDE[k];
                int y = cell / WIDTH + ALONG[k];
                int other = WIDTH * y + x;
                boolean lies = within(x, 0, WIDTH - 1) && within(y, 0, ROWS - 1);
                if (lies && (best == NONE || surface(other) < surface(best))) {
                    best = other;
                }
            }
            return best;
        }

        private int breakIce() {
            int run = 0;
            for (int cell = 0; cell < CELLS; cell++) {
                int over = Math.max(ice[cell] - ICE_MOST, 0);
                ice[cell] -= over;
                run += STEP * over;
            }
            return run;
        }
    }

    /** The bytes that are fed, and the tokens that stand in them. */
    private static final class Tape {
        private final int[] bytes = new int[TAPE_MOST];
        // One token more than bytes: the last is always END.
        private final int[] tokens = new int[TAPE_MOST + 1];
        private final int[] places = new int[TAPE_MOST + 1];
        private final int[] numbers = new int[TAPE_MOST + 1];
        private int length = 0;

        private void append(int four) {
            for (int shift = 24; shift >= 0 && length < bytes.length; shift -= 8) {
                bytes[length] = four >>> shift & 255;
                length++;
            }
        }

        private int byteAt(int i) {
            return i >= 0 && i < length && i < bytes.length ? bytes[i] : NONE;
        }

        private void readTokens() {
            int place = 0;
            int count = 0;
            while (place < length && count < TAPE_MOST) {
                int behind = place + 1;
                int sign = byteAt(place);
                if (!isBlank(sign)) {
                    behind = endOf(place);
                    places[count] = place;
                    numbers[count] = isDigit(sign) ? numberIn(place, behind) : 0;
                    tokens[count] = tokenIn(place, behind);
                    count++;
                }
                place = behind;
            }
            places[count] = length;
            numbers[count] = 0;
            tokens[count] = END;
        }

        /** Where the letters or digits that begin at a place end; any other sign stands alone. */
        private int endOf(int place) {
            int behind = place + 1;
            if (isLetter(byteAt(place))) {
                while (behind < length && isLetter(byteAt(behind))) {
                    behind++;
                }
            } else if (isDigit(byteAt(place))) {
                while (behind < length && isDigit(byteAt(behind))) {
                    behind++;
                }
            }
            return behind;
        }

        private int tokenIn(int place, int behind) {
            int sign = byteAt(place);
            if (isLetter(sign)) {
                return wordIn(place, behind);
            }
            if (isDigit(sign)) {
                return behind - place <= NUMBER_SIZE ? NUMBER : STRANGE;
            }
            return SIGNS.indexOf((char) sign) >= 0 ? sign : STRANGE;
        }

        private int wordIn(int place, int behind) {
            if (behind - place > WORD_SIZE) {
                return STRANGE;
            }
            for (int from = 0; from + WORD_SIZE <= WORDS.length(); from += WORD_SIZE) {
                boolean like = true;
                for (int i = 0; i < WORD_SIZE; i++) {
                    int got = place + i < behind ? byteAt(place + i) : ' ';
                    like = like && WORDS.charAt(from + i) == got;
                }
                if (like) {
                    return FALL + from / WORD_SIZE;
                }
            }
            return STRANGE;
        }

        private int numberIn(int place, int behind) {
            int number = 0;
            for (int i = place; i < behind && i < place + NUMBER_SIZE; i++) {
                number = number * 10 + byteAt(i) - '0';
            }
            return number;
        }

        private static boolean isBlank(int sign) {
            return sign == 32 || sign == 10;
        }

        private static boolean isLetter(int sign) {
            return sign >= 'a' && sign <= 'z' || sign >= 'A' && sign <= 'Z';
        }

        private static boolean isDigit(int sign) {
            return sign >= '0' && sign <= '9';
        }
    }

    /**
     * A law's lines as steps on a stack: a step from 0 upwards is a number,
     * one below 0 is the token, negated, that asks a fact or joins what lies on top.
     */
    private static final class Law {
        // Nine nests at most keep a sum and a product waiting each, a condition three values more.
        private static final int STACK = 40;

        private final int[] sorts = new int[LINES];
        private final int[] starts = new int[LINES];
        private final int[] middles = new int[LINES];
        private final int[] ends = new int[LINES];
        private final int[] steps = new int[TAPE_MOST];
        private final int[] stack = new int[STACK];
        private int lines = 0;
        private int length = 0;

        private void clear() {
            lines = 0;
            length = 0;
        }

        private void copyFrom(Law other) {
            for (int line = 0; line < LINES; line++) {
                sorts[line] = other.sorts[line];
                starts[line] = other.starts[line];
                middles[line] = other.middles[line];
                ends[line] = other.ends[line];
            }
            for (int i = 0; i < TAPE_MOST; i++) {
                steps[i] = other.steps[i];
            }
            lines = other.lines;
            length = other.length;
        }

        private void addStep(int step) {
            if (length < steps.length) {
                steps[length] = step;
                length++;
            }
        }

        /** A line whose E takes the steps from start to middle and whose B those from there on. */
        private void addLine(int sort, int start, int middle) {
            if (lines < LINES) {
                sorts[lines] = sort;
                starts[lines] = start;
                middles[lines] = middle;
                ends[lines] = length;
                lines++;
            }
        }

        private int tellOf(int sort, int[] facts) {
            for (int line = 0; line < lines && line < LINES; line++) {
                int middle = middles[line];
                boolean always = middle == ends[line];
                if (sorts[line] == sort && (always || evaluate(middle, ends[line], facts) != 0)) {
                    int told = evaluate(starts[line], middle, facts);
                    return Math.max(0, Math.min(TOLD_MOST, told));
                }
            }
            return 0;
        }

        private int evaluate(int from, int to, int[] facts) {
            int top = 0;
            for (int i = Math.max(from, 0); i < to && i < steps.length; i++) {
                int kind = -steps[i];
                if (kind <= 0 || kind >= WARM) {
                    if (top < STACK) {
                        stack[top] = kind <= 0 ? steps[i] : factIn(facts, kind - WARM);
                        top++;
                    }
                } else if (kind == NOT) {
                    if (top > 0) {
                        stack[top - 1] = 1 - stack[top - 1];
                    }
                } else if (top > 1) {
                    top--;
                    stack[top - 1] = join(kind, stack[top - 1], stack[top]);
                }
            }
            return top > 0 ? stack[top - 1] : 0;
        }

        private static int factIn(int[] facts, int k) {
            return k >= 0 && k < facts.length ? facts[k] : 0;
        }

        private static int join(int kind, int a, int b) {
            switch (kind) {
                case '+': return a + b;
                case '-': return a - b;
                case '*': return a * b;
                case '/': return b == 0 ? 0 : a / b;
                case '<': return a < b ? 1 : 0;
                case '=': return a == b ? 1 : 0;
                case '>': return a > b ? 1 : 0;
                case AND: return a & b;
                case OR: return a | b;
                default: return 0;
            }
        }
    }

    /** Reads THE LAW from a tape into a draft, so that a FAULT leaves the law in force as it is. */
    private static final class LawReader {
        private final Tape tape;
        private final Law draft = new Law();
        private int at = 0;
        private int token = END;
        private int fault = 0;
        private int faultPlace = NONE;

        private LawReader(Tape tape) {
            this.tape = tape;
        }

        private boolean readLaw() {
            fault = 0;
            faultPlace = NONE;
            draft.clear();
            tape.readTokens();
            at = 0;
            token = tape.tokens[0];
            for (int line = 0; line <= LINES && token != END; line++) {
                if (!readLine()) {
                    return false;
                }
            }
            return true;
        }

        private boolean readLine() {
            int sort = token;
            if (!within(sort, FALL, ICE)) {
                return fail(FAULT_PLACE);
            }
            if (draft.lines >= LINES) {
                return fail(FAULT_MANY);
            }
            int start = draft.length;
            advance();
            if (!readSum(0)) {
                return false;
            }
            int middle = draft.length;
            if (token == WHEN) {
                advance();
                if (!readCondition()) {
                    return false;
                }
            }
            draft.addLine(sort, start, middle);
            return take(';');
        }

        /** B = A {or A} and A = C {and C}: an or waits until the A behind it is read. */
        private boolean readCondition() {
            boolean waits = false;
            boolean fine = readClaim(0);
            for (int k = 0; k < TAPE_MOST && fine && (token == AND || token == OR); k++) {
                boolean both = token == AND;
                if (!both && waits) {
                    draft.addStep(-OR);
                }
                waits = waits || !both;
                advance();
                fine = readClaim(0);
                if (both) {
                    draft.addStep(-AND);
                }
            }
            if (waits) {
                draft.addStep(-OR);
            }
            return fine;
        }

        /** C = E (< | = | >) E | not C. */
        private boolean readClaim(int open) {
            if (token == NOT) {
                if (!openOne(open) || !readClaim(open + 1)) {
                    return false;
                }
                draft.addStep(-NOT);
                return true;
            }
            if (!readSum(open)) {
                return false;
            }
            int sign = token;
            if (sign != '<' && sign != '=' && sign != '>') {
                return fail(FAULT_PLACE);
            }
            advance();
            if (!readSum(open)) {
                return false;
            }
            draft.addStep(-sign);
            return true;
        }

        /** E = T {(+ | -) T}. */
        private boolean readSum(int open) {
            boolean fine = readProduct(open);
            for (int k = 0; k < TAPE_MOST && fine && (token == '+' || token == '-'); k++) {
                int sign = token;
                advance();
                fine = readProduct(open);
                draft.addStep(-sign);
            }
            return fine;
        }

        /** T = U {(* U | / NUMBER)}. */
        private boolean readProduct(int open) {
            boolean fine = readUnit(open);
            for (int k = 0; k < TAPE_MOST && fine && (token == '*' || token == '/'); k++) {
                int sign = token;
                advance();
                fine = sign == '*' ? readUnit(open) : readDivisor();
                draft.addStep(-sign);
            }
            return fine;
        }

        private boolean readUnit(int open) {
            if (token == '(') {
                return openOne(open) && readSum(open + 1) && take(')');
            }
            if (token == NUMBER) {
                draft.addStep(tape.numbers[at]);
                return take(NUMBER);
            }
            if (within(token, WARM, LYING)) {
                draft.addStep(-token);
                return take(token);
            }
            return fail(FAULT_PLACE);
        }

        private boolean readDivisor() {
            int number = tape.numbers[at];
            if (token == NUMBER && number == 0) {
                return fail(FAULT_PART);
            }
            draft.addStep(number);
            return take(NUMBER);
        }

        /** Goes behind a ( or not, of which so many are open already. */
        private boolean openOne(int open) {
            if (open >= OPEN_MOST) {
                return fail(FAULT_MANY);
            }
            advance();
            return true;
        }

        private boolean take(int due) {
            if (token != due) {
                return fail(FAULT_PLACE);
            }
            advance();
            return true;
        }

        /** Goes on to the next token; END stays. */
        private void advance() {
            if (token != END && at < TAPE_MOST) {
                at++;
            }
            token = tape.tokens[at];
        }

        private boolean fail(int kind) {
            fault = kind;
            faultPlace = tape.places[at];
            return false;
        }
    }

    /** READINGS, PITS, GAUGES and heights in the order in which they were told. */
    private static final class Tellings {
        private final int[] kinds = new int[TELLINGS];
        private final int[] wheres = new int[TELLINGS];
        private final int[] whens = new int[TELLINGS];
        private final int[] firsts = new int[TELLINGS];
        private final int[] seconds = new int[TELLINGS];
        private final int[] days = new int[TELLINGS];
        private int count = 0;
        private int latestDay = 0;

        private boolean add(int kind, int where, int when, int first, int second, int day) {
            if (count >= TELLINGS || !within(day, latestDay, DAY_MOST)) {
                return false;
            }
            kinds[count] = kind;
            wheres[count] = where;
            whens[count] = when;
            firsts[count] = first;
            seconds[count] = second;
            days[count] = day;
            latestDay = day;
            count++;
            return true;
        }

        private int latest(int kind, int where, int when, int day) {
            for (int i = Math.min(count, TELLINGS) - 1; i >= 0; i--) {
                if (wheres[i] == where && isKnown(i, kind, when, day)) {
                    return i;
                }
            }
            return NONE;
        }

        /** Puts the latest telling as known of each where into its place of the row. */
        private void gather(int kind, int when, int day, int[] row) {
            for (int where = 0; where < row.length; where++) {
                row[where] = NONE;
            }
            for (int i = 0; i < count && i < TELLINGS; i++) {
                int where = wheres[i];
                if (isKnown(i, kind, when, day) && where >= 0 && where < row.length) {
                    row[where] = i;
                }
            }
        }

        private boolean isKnown(int i, int kind, int when, int day) {
            return within(i, 0, TELLINGS - 1) && kinds[i] == kind && whens[i] == when && days[i] <= day;
        }

        private int firstOf(int i) {
            return within(i, 0, TELLINGS - 1) ? firsts[i] : NONE;
        }

        private int secondOf(int i) {
            return within(i, 0, TELLINGS - 1) ? seconds[i] : NONE;
        }
    }

    /** The least and greatest WEIGHT of each BAND in one MONTH. */
    private static final class Weights {
        private static final int WITHOUT = 0;

        private final int[] pits = new int[CELLS];
        private final int[] least = new int[BANDS];
        private final int[] most = new int[BANDS];

        private void gatherPits(Glacier glacier, Tellings tellings, int t, int day) {
            for (int band = 0; band < BANDS; band++) {
                least[band] = WITHOUT;
                most[band] = WITHOUT;
            }
            tellings.gather(A_PIT, t, day, pits);
            for (int cell = 0; cell < CELLS; cell++) {
                if (pits[cell] != NONE) {
                    addPit(glacier.band(cell), tellings.firstOf(pits[cell]));
                }
            }
        }

        private void addPit(int band, int weight) {
            if (within(band, 0, BANDS - 1)) {
                least[band] = least[band] == WITHOUT ? weight : Math.min(least[band], weight);
                most[band] = Math.max(most[band], weight);
            }
        }

        private int weightOf(int band, boolean greatest) {
            if (!within(band, 0, BANDS - 1) || most[band] == WITHOUT) {
                return greatest ? 6 : 2;
            }
            return greatest ? most[band] : least[band];
        }
    }

    /** The POLES, their GAINS from one MONTH to another, and what the BANDS have by these. */
    private static final class Balance {
        private final int[] cells = new int[POLES];
        private final boolean[] gained = new boolean[POLES];
        private final int[] poleBands = new int[POLES];
        private final int[] lows = new int[POLES];
        private final int[] highs = new int[POLES];
        private final int[] readingsA = new int[POLES];
        private final int[] readingsB = new int[POLES];
        private final Weights weightsA = new Weights();
        private final Weights weightsB = new Weights();
        private final int[] icy = new int[BANDS];
        private final int[] owns = new int[BANDS];
        private final int[] lowMeans = new int[BANDS];
        private final int[] highMeans = new int[BANDS];
        private int poles = 0;
        private int gains = 0;

        private int addPole(int cell) {
            if (poles >= POLES) {
                return NONE;
            }
            cells[poles] = cell;
            poles++;
            return poles - 1;
        }

        private int weightOf(int pole, Glacier glacier, Tellings tellings, int t, int day, boolean greatest) {
            if (!within(pole, 0, POLES - 1)) {
                return NONE;
            }
            weightsA.gatherPits(glacier, tellings, t, day);
            return weightsA.weightOf(glacier.band(cells[pole]), greatest);
        }

        private void weighPoles(Glacier glacier, Tellings tellings, int a, int b, int day) {
            tellings.gather(A_READING, a, day, readingsA);
            tellings.gather(A_READING, b, day, readingsB);
            weightsA.gatherPits(glacier, tellings, a, day);
            weightsB.gatherPits(glacier, tellings, b, day);
            countIce(glacier);
            gains = 0;
            for (int pole = 0; pole < POLES; pole++) {
                poleBands[pole] = glacier.band(cells[pole]);
                gained[pole] = pole < poles && readingsA[pole] != NONE && readingsB[pole] != NONE;
                if (gained[pole]) {
                    weighPole(pole, tellings);
                    gains++;
                }
            }
            settleMeans(NONE);
        }

        private void countIce(Glacier glacier) {
            for (int band = 0; band < BANDS; band++) {
                icy[band] = 0;
            }
            for (int cell = 0; cell < CELLS; cell++) {
                int band = glacier.band(cell);
                if (glacier.isIcy(cell) && within(band, 0, BANDS - 1)) {
                    icy[band]++;
                }
            }
        }

        private void weighPole(int pole, Tellings tellings) {
            if (!within(pole, 0, POLES - 1)) {
                return;
            }
            int band = poleBands[pole];
            int melted = 9 * (tellings.firstOf(readingsA[pole]) - tellings.firstOf(readingsB[pole]));
            int deepA = tellings.secondOf(readingsA[pole]);
            int deepB = tellings.secondOf(readingsB[pole]);
            lows[pole] = melted + deepB * weightsB.weightOf(band, false) - deepA * weightsA.weightOf(band, true);
            highs[pole] = melted + deepB * weightsB.weightOf(band, true) - deepA * weightsA.weightOf(band, false);
        }

        private int gainOf(int pole, boolean high) {
            if (!within(pole, 0, POLES - 1) || !gained[pole]) {
                return NO_GAIN;
            }
            return high ? highs[pole] : lows[pole];
        }

        /** Takes the means of all BANDS that have POLES with a GAIN, one POLE left out (or NONE). */
        private void settleMeans(int leftOut) {
            for (int band = 0; band < BANDS; band++) {
                int count = 0;
                int low = 0;
                int high = 0;
                for (int pole = 0; pole < POLES; pole++) {
                    if (gained[pole] && pole != leftOut && poleBands[pole] == band) {
                        count++;
                        low += lows[pole];
                        high += highs[pole];
                    }
                }
                owns[band] = count;
                lowMeans[band] = count == 0 ? 0 : Math.floorDiv(low, count);
                highMeans[band] = count == 0 ? 0 : -Math.floorDiv(-high, count);
            }
        }

        /** The nearest BAND that has a mean of its own; of two the lower. */
        private int nearestBand(int band) {
            for (int away = 0; away < BANDS; away++) {
                if (hasMean(band - away)) {
                    return band - away;
                }
                if (hasMean(band + away)) {
                    return band + away;
                }
            }
            return NONE;
        }

        private boolean hasMean(int band) {
            return within(band, 0, BANDS - 1) && owns[band] > 0;
        }

        private int meanOf(int band, boolean high) {
            if (!within(band, 0, BANDS - 1)) {
                return 0;
            }
            return high ? highMeans[band] : lowMeans[band];
        }

        private int total(boolean high) {
            int all = 0;
            for (int band = 0; band < BANDS; band++) {
                if (icy[band] > 0) {
                    all += icy[band] * meanOf(nearestBand(band), high);
                }
            }
            return all;
        }

        private int doubt(boolean high) {
            boolean found = false;
            int best = 0;
            for (int pole = 0; pole < POLES; pole++) {
                if (gained[pole]) {
                    settleMeans(pole);
                    int all = total(high);
                    if (!found || (high ? all > best : all < best)) {
                        best = all;
                    }
                    found = true;
                }
            }
            return best;
        }

        private int mostMissed() {
            int best = NONE;
            int most = 0;
            for (int band = 0; band < BANDS; band++) {
                int source = nearestBand(band);
                int missed = source == NONE ? 0 : icy[band] * Math.abs(band - source);
                if (missed > most) {
                    most = missed;
                    best = band;
                }
            }
            return best;
        }
    }

    /** Two MAPS against each other. */
    private static final class Maps {
        private final int[] one = new int[CELLS];
        private final int[] other = new int[CELLS];
        private final int[] rises = new int[CELLS];
        private final boolean[] both = new boolean[CELLS];

        /** OFFSET of MAPS i and j, or NO_OFFSET. */
        private int shift(int i, int j, int day, Tellings tellings, Glacier glacier) {
            tellings.gather(A_HEIGHT, i, day, one);
            tellings.gather(A_HEIGHT, j, day, other);
            int count = 0;
            for (int cell = 0; cell < CELLS; cell++) {
                both[cell] = one[cell] != NONE && other[cell] != NONE;
                if (both[cell]) {
                    one[cell] = tellings.firstOf(other[cell]) - tellings.firstOf(one[cell]);
                    if (!glacier.isIcy(cell)) {
                        insert(one[cell], count);
                        count++;
                    }
                }
            }
            int middle = (count - 1) / 2;
            return count > 0 && middle < CELLS ? rises[middle] : NO_OFFSET;
        }

        /** Puts a rise among the first so many, which stand in rising order. */
        private void insert(int rise, int count) {
            if (!within(count, 0, CELLS - 1)) {
                return;
            }
            int at = count;
            while (at > 0 && rises[at - 1] > rise) {
                rises[at] = rises[at - 1];
                at--;
            }
            rises[at] = rise;
        }

        /** How much the ice rose in all between the MAPS that shift() has laid side by side. */
        private int rise(int shift, Glacier glacier) {
            int all = 0;
            for (int cell = 0; cell < CELLS; cell++) {
                if (both[cell] && glacier.isIcy(cell)) {
                    all += one[cell] - shift;
                }
            }
            return all;
        }
    }

    /** The MONTHS to come, worked on a copy of the glacier. */
    private static final class Forecast {
        private final Glacier trial = new Glacier();
        private int total = 0;
        private int least = 0;

        private void make(Glacier glacier, Law law, Sky sky, int from, int months, int year) {
            trial.copyFrom(glacier);
            total = 0;
            least = 0;
            for (int k = 0; k < months && k < SPAN_MOST; k++) {
                int run = trial.workMonth(law, sky, year * YEAR + (from + k) % YEAR);
                total += run;
                least = k == 0 ? run : Math.min(least, run);
            }
        }
    }
}
