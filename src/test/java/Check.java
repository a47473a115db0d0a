/** Counts answers that are not as due, and tells them. */
final class Check {
    private int wrong = 0;

    void is(String call, long got, long want) {
        if (got != want) {
            wrong++;
            System.out.println(call + " answered " + got + ", due is " + want);
        }
    }

    void isTrue(String what, boolean holds) {
        if (!holds) {
            wrong++;
            System.out.println("does not hold: " + what);
        }
    }

    /** Types a text into THE DRAFT, eight bytes at a time. */
    static int write(FlueRounds f, String text) {
        int had = f.count(2);
        for (int i = 0; i < text.length(); i += 8) {
            String part = text.substring(i, Math.min(i + 8, text.length()));
            long v = 0;
            for (int k = 0; k < part.length(); k++) {
                v = v << 8 | part.charAt(k);
            }
            had = f.type(v, part.length());
        }
        return had;
    }

    /** Makes a text THE DRAFT, whatever it was, and tells it as a LAW. */
    static int tell(FlueRounds f, String text) {
        f.clear();
        write(f, text);
        return f.law();
    }

    /** A FLUE of which only the FUEL, the PLACE and the HAND matter. */
    static int plain(FlueRounds f, int fuel, int x, int y, int hand) {
        return f.flue(0, fuel, 5, 10, 0, x, y, hand);
    }

    /** Goes on to a DAY. */
    static void goTo(FlueRounds f, int day) {
        while (f.count(1) < day) {
            f.days(Math.min(50, day - f.count(1)));
        }
    }

    void end(String test) {
        System.out.println(test + ": " + (wrong == 0 ? "all as due" : wrong + " not as due"));
        if (wrong != 0) {
            System.exit(1);
        }
    }
}
