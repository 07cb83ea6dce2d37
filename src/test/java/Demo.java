/** Two years of a small glacier, what was told of it, and what comes. */
public final class Demo {
    public static void main(String[] args) {
        IceHouse house = new IceHouse();
        for (int cell = 0; cell < 60; cell++) {
            house.set(cell, 0, 15 * cell);
        }
        house.set(55, 3, 250);
        house.set(22, 3, 40);
        feed(house, "fall rain; snow 20 * warm when warm > 0; ice 30 * warm - debris when warm > 0;");
        System.out.println("lines of the law: " + house.law());
        for (int t = 0; t < 24; t++) {
            int summer = t % 12 - 8;
            house.weather(t, 30 + 4 * (t / 12) - summer * summer, 60, 0);
        }
        System.out.println("ran in two years: " + house.work(24));
        System.out.println("water now: " + house.look(4) + ", cells with ice: " + house.look(5));

        int low = house.pole(22);
        int high = house.pole(55);
        house.read(low, 0, 100, 30, 1);
        house.read(low, 12, 160, 10, 2);
        house.read(high, 0, 200, 90, 2);
        house.read(high, 12, 190, 120, 2);
        house.pit(54, 12, 4, 3);
        System.out.println("sum on day 1: " + house.sum(0, 12, 1, 0));
        System.out.println("sum on day 3: " + house.sum(0, 12, 3, 0) + " to " + house.sum(0, 12, 3, 1));
        System.out.println("a year to come: " + house.spread(12, 0) + " to " + house.spread(12, 1));

        feed(house, "fall rain / 0;");
        System.out.println("a fault: " + house.law() + ", " + house.fault(0) + " at " + house.fault(1));
        System.out.println("a cell that is none: " + house.set(60, 0, 0) + ", " + house.of(60, 0));
    }

    /** Twenty bytes a call, the last filled up with blanks, which end() cuts. */
    private static void feed(IceHouse house, String text) {
        for (int at = 0; at < text.length(); at += 20) {
            house.feed(four(text, at), four(text, at + 4), four(text, at + 8), four(text, at + 12), four(text, at + 16));
        }
        house.end(text.length());
    }

    private static int four(String text, int at) {
        int four = 0;
        for (int i = at; i < at + 4; i++) {
            four = four << 8 | (i < text.length() ? text.charAt(i) : ' ');
        }
        return four;
    }
}
