/** Promises 1 to 6: a new object, type, clear, law, span, days. */
public final class LawsTest {
    private static final Check check = new Check();

    public static void main(String[] args) {
        newObject();
        typing();
        typingIsFull();
        clearing();
        faults();
        goodTexts();
        itemsByDay();
        lawsByDay();
        lawRefusals();
        spanEdges();
        daysOn();
        check.end("LawsTest");
    }

    private static void newObject() {
        FlueRounds f = new FlueRounds();
        for (int what = 0; what <= 6; what++) {
            check.is("new: count(" + what + ")", f.count(what), 0);
        }
        check.is("new: trace()", f.trace(), 0);
        check.is("new: beyond()", f.beyond(), 0);
        check.is("new: at(0)", f.at(0), FlueRounds.NONE);
        check.is("new: at(5)", f.at(5), FlueRounds.NONE);
        check.is("new: at(6)", f.at(6), 0);
        check.is("new: clear()", f.clear(), 0);
        check.is("new: law()", f.law(), FlueRounds.STATE);
        check.is("new: span(0, 0)", f.span(0, 0), 100);
        check.is("new: due(0)", f.due(0), FlueRounds.BAD);
        check.is("new: about(0, 0)", f.about(0, 0), FlueRounds.BAD);
        check.is("new: back(0, 0)", f.back(0, 0), FlueRounds.BAD);
        for (int hand = 0; hand < 4; hand++) {
            check.is("new: fees(" + hand + ", 0)", f.fees(hand, 0), 0);
            check.is("new: ill(" + hand + ", false)", f.ill(hand, false), 0);
        }
        check.is("new: rate(1)", f.rate(1), 1);
    }

    private static void typing() {
        FlueRounds f = new FlueRounds();
        int[] wrong = {0, 9, -1, Integer.MIN_VALUE, Integer.MAX_VALUE};
        for (int n : wrong) {
            check.is("type(1, " + n + ")", f.type(1, n), FlueRounds.BAD);
        }
        check.is("count(2) behind BAD", f.count(2), 0);
        // Of this number the lowest three bytes are w17, the higher ones are no LAW.
        long v = 0x7878787878L << 24 | 'w' << 16 | '1' << 8 | '7';
        check.is("type(.., 3)", f.type(v, 3), 3);
        check.is("law() of w17", f.law(), 0);
        check.is("span(1, 0)", f.span(1, 0), 17);
        long eight = 0;
        for (char c : "c12 g104".toCharArray()) {
            eight = eight << 8 | c;
        }
        check.is("type(.., 8)", f.type(eight, 8), 8);
        check.is("law() of c12 g104", f.law(), 1);
        check.is("span(2, 0)", f.span(2, 0), 12);
        check.is("span(0, 0)", f.span(0, 0), 104);
        check.is("span(1, 0) by the later LAW", f.span(1, 0), 100);
        f.type(-1L, 8);
        check.is("law() of bytes 255", f.law(), -100);
    }

    private static void typingIsFull() {
        FlueRounds f = new FlueRounds();
        for (int i = 1; i <= 7; i++) {
            check.is("type " + 8 * i, f.type(0x2020202020202020L, 8), 8 * i);
        }
        check.is("type 5 more than 60", f.type(0x2020202020L, 5), FlueRounds.FULL);
        check.is("count(2) behind FULL", f.count(2), 56);
        check.is("type 4 up to 60", f.type(0x20206731L, 4), 60);
        check.is("type a byte more", f.type('g', 1), FlueRounds.FULL);
        check.is("BAD comes ahead of FULL", f.type('g', 9), FlueRounds.BAD);
        check.is("law() of 60 bytes", f.law(), 0);
        check.is("span(0, 0) by the last bytes", f.span(0, 0), 1);
    }

    private static void clearing() {
        FlueRounds f = new FlueRounds();
        Check.write(f, "nonsense here");
        check.is("clear()", f.clear(), 13);
        check.is("clear() again", f.clear(), 0);
        check.is("law() behind clear()", f.law(), FlueRounds.STATE);
        check.is("count(2)", f.count(2), 0);
    }

    private static void faults() {
        String[] texts = {"x", "G5", "5", " 5", "g", "w10c", "g0", "g01", "g 5", "gg", "g201", "g2000", "g999", "g1 @",
            "@", "@ 5", "@x", "@501", "@5000", "@00", "@01", "@0 @05", "g200g2001", "g5,w5", "g5\t", "w5\0", "c5\u00e9",
            "g1/", "g1:", "@:", "g/", "@-1", "g+1", "  x", "w20 @30 c5 q", "g199w", "@499@510", "g10x", "@12x"};
        int[] places = {0, 0, 0, 1, 1, 4, 1, 1, 1, 1, 3, 4, 3, 4,
            1, 1, 1, 3, 4, 2, 2, 5, 8, 2, 2, 2, 2,
            2, 2, 1, 1, 1, 1, 2, 11, 5, 7, 3, 3};
        FlueRounds f = new FlueRounds();
        for (int i = 0; i < texts.length; i++) {
            check.is("law() of '" + texts[i] + "'", Check.tell(f, texts[i]), -100 - places[i]);
            check.is("bytes behind '" + texts[i] + "'", f.count(2), texts[i].length());
            check.is("law() of '" + texts[i] + "' again", f.law(), -100 - places[i]);
        }
        check.is("count(3) behind FAULTS", f.count(3), 0);
        check.is("a FAULT at the end of 60", Check.tell(f, " ".repeat(59) + "@"), -160);
        check.is("a FAULT at place 59", Check.tell(f, " ".repeat(57) + "@0" + "0"), -159);
    }

    private static void goodTexts() {
        String[] texts = {" ", "g1", "g200", "@0", "@500", "@0g5", "@10 @20", "g1w2c3", "  c9  ", "@0@0w100c200g1",
            "g10 g20 g30", "@100g1@0w1"};
        for (String text : texts) {
            FlueRounds f = new FlueRounds();
            check.is("law() of '" + text + "'", Check.tell(f, text), 0);
            check.is("count(2) behind it", f.count(2), 0);
            check.is("count(3) behind it", f.count(3), 1);
        }
    }

    private static void itemsByDay() {
        FlueRounds f = new FlueRounds();
        Check.tell(f, "g7w20@30w10c5@20g9@40 w1");
        spanIs(f, 0, 19, 7);
        spanIs(f, 0, 20, 9);
        spanIs(f, 1, 29, 20);
        spanIs(f, 1, 30, 10);
        spanIs(f, 1, 39, 10);
        spanIs(f, 1, 40, 1);
        spanIs(f, 2, 29, 100);
        spanIs(f, 2, 30, 5);
        spanIs(f, 2, 500, 5);
        // The last ITEM that holds counts, not the one of the latest DAY.
        Check.tell(f, "@50g10@20g5");
        spanIs(f, 0, 19, 100);
        spanIs(f, 0, 20, 5);
        spanIs(f, 0, 60, 5);
        // Thirty ITEMS are the most that a text can hold.
        Check.tell(f, "g1w1c1g2w2c2g3w3c3g4w4c4g5w5c5g6w6c6g7w7c7g8w8c8g9w9c9g1w2c3");
        spanIs(f, 0, 0, 1);
        spanIs(f, 1, 0, 2);
        spanIs(f, 2, 0, 3);
    }

    private static void spanIs(FlueRounds f, int fuel, int day, int want) {
        check.is("span(" + fuel + ", " + day + ")", f.span(fuel, day), want);
    }

    private static void lawsByDay() {
        FlueRounds f = new FlueRounds();
        f.days(10);
        Check.tell(f, "g20 w30");
        spanIs(f, 0, 9, 100);
        spanIs(f, 0, 10, 20);
        f.days(10);
        Check.tell(f, "g40");
        spanIs(f, 0, 19, 20);
        spanIs(f, 0, 20, 40);
        spanIs(f, 1, 19, 30);
        // What the LAW in force doesn't tell is not looked for in an earlier one.
        spanIs(f, 1, 20, 100);
        Check.tell(f, "g50@25g60");
        spanIs(f, 0, 19, 20);
        spanIs(f, 0, 20, 50);
        spanIs(f, 0, 25, 60);
        f.days(10);
        Check.tell(f, "@10c3");
        spanIs(f, 2, 29, 100);
        spanIs(f, 2, 30, 3);
        spanIs(f, 0, 29, 60);
        spanIs(f, 0, 30, 100);
    }

    private static void lawRefusals() {
        FlueRounds f = new FlueRounds();
        check.is("law() of no bytes", f.law(), FlueRounds.STATE);
        for (int i = 0; i < 6; i++) {
            check.is("law " + i, Check.tell(f, "g" + (i + 1)), i);
        }
        check.is("empty ahead of FULL", f.law(), FlueRounds.STATE);
        check.is("a FAULT ahead of FULL", Check.tell(f, "g"), -101);
        check.is("a seventh LAW", Check.tell(f, "g9"), FlueRounds.FULL);
        check.is("THE DRAFT stays", f.count(2), 2);
        check.is("count(3)", f.count(3), 6);
        spanIs(f, 0, 0, 6);
        // A text with as many ITEMS as can be does no harm either.
        check.is("a long seventh LAW", Check.tell(f, "g3".repeat(30)), FlueRounds.FULL);
        spanIs(f, 0, 0, 6);

        FlueRounds longest = new FlueRounds();
        for (int i = 0; i < 6; i++) {
            check.is("long law " + i, Check.tell(longest, ("g" + (i + 1)).repeat(30)), i);
            spanIs(longest, 0, 0, i + 1);
        }
    }

    private static void spanEdges() {
        FlueRounds f = new FlueRounds();
        int[][] wrong = {{-1, 0}, {3, 0}, {0, -1}, {0, 501}, {Integer.MIN_VALUE, 0}, {0, Integer.MAX_VALUE}};
        for (int[] w : wrong) {
            spanIs(f, w[0], w[1], FlueRounds.BAD);
        }
        Check.tell(f, "@500c200");
        spanIs(f, 2, 499, 100);
        spanIs(f, 2, 500, 200);
    }

    private static void daysOn() {
        FlueRounds f = new FlueRounds();
        int[] wrong = {0, -1, 51, Integer.MIN_VALUE, Integer.MAX_VALUE};
        for (int n : wrong) {
            check.is("days(" + n + ")", f.days(n), FlueRounds.BAD);
        }
        check.is("days(1)", f.days(1), 1);
        for (int i = 1; i <= 9; i++) {
            check.is("days(50)", f.days(50), 1 + 50 * i);
        }
        check.is("days(50) above 500", f.days(50), FlueRounds.STATE);
        check.is("days(51) there", f.days(51), FlueRounds.BAD);
        check.is("count(1)", f.count(1), 451);
        check.is("days(49)", f.days(49), 500);
        check.is("days(1) above 500", f.days(1), FlueRounds.STATE);
        check.is("count(1) at last", f.count(1), 500);
    }
}
