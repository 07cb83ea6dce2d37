/** Counts the answers that are not as due, and tells laws to a house. */
final class Checks {
    private static int right = 0;
    private static int wrong = 0;

    private Checks() {
    }

    static void due(String call, long got, long want) {
        if (got == want) {
            right++;
        } else {
            wrong++;
            System.out.println(call + " answered " + got + ", due is " + want);
        }
    }

    static void due(String call, boolean got, boolean want) {
        due(call, got ? 1 : 0, want ? 1 : 0);
    }

    /** Feeds a text (signs 0 to 255) and cuts what the last twenty bytes hold beyond it. */
    static void tape(IceHouse x, String text) {
        int fed = 0;
        for (int at = 0; at < text.length(); at += 20) {
            fed = x.feed(four(text, at), four(text, at + 4), four(text, at + 8), four(text, at + 12), four(text, at + 16));
        }
        due("end(" + text.length() + ") of " + fed, x.end(text.length()), true);
    }

    static int law(IceHouse x, String text) {
        tape(x, text);
        return x.law();
    }

    static int four(String text, int at) {
        int four = 0;
        for (int i = at; i < at + 4; i++) {
            four = four << 8 | (i < text.length() ? text.charAt(i) & 255 : ' ');
        }
        return four;
    }

    static void close(String name) {
        System.out.println(name + ": " + right + " answers as due, " + wrong + " not");
        if (wrong != 0) {
            System.exit(1);
        }
    }
}
