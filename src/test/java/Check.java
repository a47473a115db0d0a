/** Counts answers that are not as due, and tells them. */
final class Check {
    private int wrong = 0;
    private String sentence = "";

    /** The sentence of the document that the next answers belong to; it is told with those that are wrong. */
    void says(String words) {
        sentence = "[" + words + "] ";
    }

    void is(String call, long got, long want) {
        if (got != want) {
            wrong++;
            System.out.println(sentence + call + " answered " + got + ", due is " + want);
        }
    }

    void isTrue(String what, boolean holds) {
        if (!holds) {
            wrong++;
            System.out.println(sentence + "does not hold: " + what);
        }
    }

    /** Types a text into THE DRAFT, eight bytes at a time. */
    static int write(FlueRounds f, String text) {
        int had = f.count(2);
        for (int i = 0; i < text.length(); i += 8) {
            String part = text.substring(i, Math.min(i + 8, text.length()));
            had = f.type(bytesOf(part), part.length());
        }
        return had;
    }

    /** A text of up to eight bytes as type() takes it. */
    static long bytesOf(String part) {
        long v = 0;
        for (int k = 0; k < part.length(); k++) {
            v = v << 8 | part.charAt(k);
        }
        return v;
    }

    /** Makes a text THE DRAFT, whatever it was, and tells it as a LAW. */
    static int tell(FlueRounds f, String text) {
        f.clear();
        write(f, text);
        return f.law();
    }

    /** A FLUE of which only the FUEL, the PLACE and the HAND matter. */
    static int plain(FlueRounds f, int fuel, int x, int y, int hand) {
        return f.flue(0, fuel, 5, 10, 0, x, y, hand);
    }

    /** Goes on to a DAY. */
    static void goTo(FlueRounds f, int day) {
        for (int now = f.count(1); now < day; now = f.count(1)) {
            if (f.days(Math.min(50, day - now)) < 0) {
                return;
            }
        }
    }

    void end(String test) {
        System.out.println(test + ": " + (wrong == 0 ? "all as due" : wrong + " not as due"));
        if (wrong != 0) {
            System.exit(1);
        }
    }
}
