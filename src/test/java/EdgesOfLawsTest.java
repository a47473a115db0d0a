/** Promises 1 to 6 at their edges: a test for each sentence that names one. */
public final class EdgesOfLawsTest {
    private static final int BAD = FlueRounds.BAD, STATE = FlueRounds.STATE, FULL = FlueRounds.FULL;
    private static final long BLANKS = 0x2020202020202020L;
    private static final Check check = new Check();

    public static void main(String[] args) {
        newObject();
        newObjectsShareNothing();
        typeTakesOneToEight();
        typeTakesTheLowestBytes();
        typeTakesTheHighestFirst();
        typeIsFull();
        typeBadAheadOfFull();
        clearTellsWhatItHad();
        clearLeavesNoBytes();
        lawOfNoBytes();
        lawOfOneAndOfSixtyBytes();
        lawBegins();
        lawBehindALetter();
        lawBehindADigit();
        lawBlanks();
        lawSpans();
        lawDays();
        lawZeroAhead();
        lawFirstFault();
        lawMissingAtItsEnd();
        lawFaultStays();
        lawEmptiesTheDraft();
        lawsOfMostItems();
        lawsAreFull();
        lawRefusalsInTheirOrder();
        itemsHoldFromTheirDay();
        itemsAheadOfTheFirstDay();
        theLastItemCounts();
        noItem();
        lawInForceFromItsDay();
        laterLawOfOneDay();
        spanRanges();
        spanByLawsToldByNow();
        daysOneToFifty();
        daysUpToTheLast();
        daysBadAheadOfState();
        theLastOfItsCalls();
        check.end("EdgesOfLawsTest");
    }

    private static Twins behind(java.util.function.Consumer<FlueRounds> past) {
        return new Twins(check, past);
    }

    private static void lawIs(String text, int want) {
        FlueRounds f = new FlueRounds();
        check.is("law() of '" + text + "'", Check.tell(f, text), want);
        check.is("bytes behind '" + text + "'", f.count(2), want < 0 ? text.length() : 0);
        check.is("LAWS behind '" + text + "'", f.count(3), want < 0 ? 0 : 1);
    }

    private static void spanIs(FlueRounds f, int fuel, int day, int want) {
        check.is("span(" + fuel + ", " + day + ")", f.span(fuel, day), want);
    }

    // ---- promise 1

    private static void newObject() {
        check.says("DAY 0, no LAWS, no FLUES, an empty DRAFT");
        FlueRounds f = new FlueRounds();
        check.is("DAY", f.count(1), 0);
        check.is("LAWS", f.count(3), 0);
        check.is("FLUES", f.count(0), 0);
        check.is("bytes of THE DRAFT", f.count(2), 0);
        check.is("no DAY ahead of 0", f.known(0, -1), BAD);
        check.is("the first DAY", f.days(1), 1);
        check.is("the first LAW", Check.tell(f, " "), 0);
        check.is("the first FLUE", Check.plain(f, 0, 0, 0, 0), 0);
        check.is("the first LOOK", f.look(0, 1, true), 0);
        check.is("the first FIRE", f.fire(0, 1), 0);
        check.is("the first fee, at THE RATE 1", f.sweep(0), 5);
    }

    private static void newObjectsShareNothing() {
        check.says("A new object, beside one that was used");
        FlueRounds used = new FlueRounds();
        Pasts.busy(used);
        FlueRounds f = new FlueRounds();
        for (int what = 0; what <= 6; what++) {
            check.is("count(" + what + ")", f.count(what), 0);
        }
        check.is("trace()", f.trace(), 0);
        check.is("at(0)", f.at(0), FlueRounds.NONE);
        check.is("rate(1)", f.rate(1), 1);
        check.is("ill(3, false)", f.ill(3, false), 0);
        spanIs(f, 0, 0, 100);
        check.is("bytes of the used one", used.count(2), 5);
        check.is("TODAY of the used one", used.count(1), 20);
    }

    // ---- promise 2

    private static void typeTakesOneToEight() {
        check.says("type: n (1 .. 8)");
        for (int n = 1; n <= 8; n++) {
            check.is("type(.., " + n + ")", new FlueRounds().type(BLANKS, n), n);
        }
        for (int n : new int[] {0, 9, -1, -8, 256, Integer.MIN_VALUE, Integer.MAX_VALUE}) {
            behind(Pasts::none).refuse("type(.., " + n + ")", BAD, f -> f.type(BLANKS, n));
            behind(Pasts::busy).refuse("type(.., " + n + ")", BAD, f -> f.type(BLANKS, n));
        }
    }

    private static void typeTakesTheLowestBytes() {
        check.says("type: the lowest n bytes of v");
        for (int n = 1; n <= 8; n++) {
            FlueRounds f = new FlueRounds();
            // All bytes above are 255, which can't stand in a LAW.
            long above = n == 8 ? 0 : -1L << (8 * n);
            f.type(above | BLANKS & ~above, n);
            check.is("law() of " + n + " blanks", f.law(), 0);
        }
        for (int n = 1; n <= 8; n++) {
            FlueRounds f = new FlueRounds();
            f.type(BLANKS | 0xFFL << (8 * n - 8), n);
            check.is("law() with 255 as the highest of " + n, f.law(), -100);
        }
    }

    private static void typeTakesTheHighestFirst() {
        check.says("type: the highest of them first");
        for (int n = 1; n <= 8; n++) {
            FlueRounds f = new FlueRounds();
            // A blank with these bits too is an x.
            f.type(BLANKS | (long) 'x' << (8 * n - 8), n);
            check.is("x as the highest of " + n, f.law(), -100);
            FlueRounds last = new FlueRounds();
            last.type(BLANKS | 'x', n);
            check.is("x as the lowest of " + n, last.law(), -100 - (n - 1));
        }
        FlueRounds f = new FlueRounds();
        f.type(Check.bytesOf("@7g123 w"), 8);
        f.type('9', 1);
        check.is("law() of '@7g123 w9'", f.law(), 0);
        spanIs(f, 0, 6, 100);
        spanIs(f, 0, 7, 123);
        spanIs(f, 1, 7, 9);
        FlueRounds least = new FlueRounds();
        least.type(Long.MIN_VALUE, 8);
        check.is("law() of byte 128", least.law(), -100);
        FlueRounds greatest = new FlueRounds();
        greatest.type(Long.MAX_VALUE, 8);
        check.is("law() of byte 127", greatest.law(), -100);
    }

    private static void typeIsFull() {
        check.says("type: FULL: more than 60");
        for (int n = 1; n <= 8; n++) {
            int size = n;
            FlueRounds f = new FlueRounds();
            Check.write(f, " ".repeat(60 - n));
            check.is(n + " bytes up to 60", f.type(BLANKS, n), 60);
            check.is("law() of them", f.law(), 0);
            behind(g -> Check.write(g, "g11w12c13" + " ".repeat(61 - size - 9)))
                .refuse(n + " bytes up to 61", FULL, g -> g.type(BLANKS, size));
            behind(Pasts::fullDraft).refuse(n + " bytes behind 60", FULL, g -> g.type(BLANKS, size));
        }
        FlueRounds f = new FlueRounds();
        Pasts.fullDraft(f);
        check.is("a byte behind 60", f.type(' ', 1), FULL);
        check.is("clear()", f.clear(), 60);
        check.is("a byte behind clear()", f.type(' ', 1), 1);
        check.is("a LAW of it", f.law(), 0);
        check.is("a byte behind law()", f.type(' ', 1), 1);
        FlueRounds smaller = new FlueRounds();
        Check.write(smaller, " ".repeat(58));
        check.is("3 bytes behind 58", smaller.type(BLANKS, 3), FULL);
        check.is("2 bytes behind 58", smaller.type(Check.bytesOf("g7"), 2), 60);
        check.is("law() of both", smaller.law(), 0);
        spanIs(smaller, 0, 0, 7);
    }

    private static void typeBadAheadOfFull() {
        check.says("type: BAD ahead of FULL");
        for (int n : new int[] {0, 9, -1, Integer.MIN_VALUE, Integer.MAX_VALUE}) {
            behind(Pasts::fullDraft).refuse("type(.., " + n + ") behind 60", BAD, f -> f.type(BLANKS, n));
        }
    }

    // ---- promise 3

    private static void clearTellsWhatItHad() {
        check.says("clear: how many bytes it had");
        FlueRounds f = new FlueRounds();
        check.is("clear() of none", f.clear(), 0);
        f.type('g', 1);
        check.is("clear() of one", f.clear(), 1);
        check.is("clear() again", f.clear(), 0);
        Pasts.fullDraft(f);
        check.is("clear() of sixty", f.clear(), 60);
        check.is("count(2)", f.count(2), 0);
    }

    private static void clearLeavesNoBytes() {
        check.says("clear: THE DRAFT is empty");
        FlueRounds f = new FlueRounds();
        Check.tell(f, "g9");
        Check.write(f, "w11w12");
        f.clear();
        check.is("law() behind clear()", f.law(), STATE);
        f.type(' ', 1);
        check.is("law() of a blank", f.law(), 1);
        spanIs(f, 1, 0, 100);
        Check.write(f, "x");
        f.clear();
        check.is("LAWS stay", f.count(3), 2);
    }

    // ---- promise 4

    private static void lawOfNoBytes() {
        check.says("law: STATE: THE DRAFT is empty");
        behind(Pasts::none).refuse("law()", STATE, FlueRounds::law);
        behind(f -> {
            Pasts.busy(f);
            f.clear();
        }).refuse("law() behind clear()", STATE, FlueRounds::law);
        behind(f -> Check.tell(f, "g5")).refuse("law() behind law()", STATE, FlueRounds::law);
    }

    private static void lawOfOneAndOfSixtyBytes() {
        check.says("A LAW is a text (1 .. 60 bytes)");
        lawIs(" ", 0);
        lawIs(" ".repeat(59), 0);
        lawIs(" ".repeat(60), 0);
        FlueRounds f = new FlueRounds();
        check.is("thirty ITEMS", Check.tell(f, "g1w2c3".repeat(9) + "g7w8c9"), 0);
        spanIs(f, 0, 0, 7);
        spanIs(f, 1, 0, 8);
        spanIs(f, 2, 0, 9);
        check.is("twenty @ of two digits", Check.tell(f, "@10".repeat(18) + "@20g30"), 1);
        spanIs(f, 0, 19, 100);
        spanIs(f, 0, 20, 30);
        Pasts.fullDraft(f);
        check.is("ITEMS that end with byte 60", f.law(), 2);
        spanIs(f, 0, 0, 11);
        spanIs(f, 2, 0, 13);
    }

    private static void lawBegins() {
        check.says("A FAULT is the place of the first byte that cannot stand there: the first byte");
        for (int b = 0; b < 256; b++) {
            boolean opens = "gwc@".indexOf(b) >= 0;
            lawIs(String.valueOf((char) b), b == 32 ? 0 : opens ? -101 : -100);
        }
    }

    private static void lawBehindALetter() {
        check.says("digits right behind it");
        for (String first : new String[] {"g", "w", "c", "@"}) {
            char least = first.equals("@") ? '0' : '1';
            for (int b = 0; b < 256; b++) {
                lawIs(first + (char) b, b >= least && b <= '9' ? 0 : -101);
            }
        }
        lawIs("g 5", -101);
        lawIs("@ 5", -101);
        lawIs("g@5", -101);
        lawIs("@g5", -101);
    }

    private static void lawBehindADigit() {
        check.says("A FAULT is the place of the first byte that cannot stand there: behind a digit");
        for (String first : new String[] {"g", "w", "c", "@"}) {
            for (int b = 0; b < 256; b++) {
                boolean goesOn = b == 32 || b >= '0' && b <= '9';
                boolean opens = "gwc@".indexOf(b) >= 0;
                lawIs(first + "1" + (char) b, goesOn ? 0 : opens ? -103 : -102);
            }
        }
    }

    private static void lawBlanks() {
        check.says("blanks (32) between them as may be");
        for (String text : new String[] {"g11w12@5c13", "g11 w12 @5 c13", "  g11   w12  @5   c13  "}) {
            FlueRounds f = new FlueRounds();
            check.is("law() of '" + text + "'", Check.tell(f, text), 0);
            spanIs(f, 0, 0, 11);
            spanIs(f, 1, 0, 12);
            spanIs(f, 2, 4, 100);
            spanIs(f, 2, 5, 13);
        }
        for (int b : new int[] {0, 9, 10, 13, 31, 33, 44, 160}) {
            lawIs("g1" + (char) b + "w2", -102);
        }
        lawIs("g1 5", -103);
        lawIs("@1 5", -103);
    }

    /** The place of the digit by which a number is too great; -1, if it is not. */
    private static int tooGreat(int number, int most) {
        String digits = String.valueOf(number);
        for (int end = 1; end <= digits.length(); end++) {
            if (Integer.parseInt(digits.substring(0, end)) > most) {
                return end - 1;
            }
        }
        return -1;
    }

    private static void numberIs(String first, int number, int most) {
        int digit = tooGreat(number, most);
        lawIs(first + number, digit < 0 ? 0 : -100 - first.length() - digit);
    }

    private static void lawSpans() {
        check.says("a letter g, w, c and a number 1 .. 200; too great: at the digit by which it is");
        String[] letters = {"g", "w", "c"};
        for (int fuel = 0; fuel < 3; fuel++) {
            lawIs(letters[fuel] + "0", -101);
            for (int number = 1; number <= 2100; number++) {
                numberIs(letters[fuel], number, 200);
            }
            for (int number : new int[] {1, 2, 9, 10, 99, 100, 101, 199, 200}) {
                FlueRounds f = new FlueRounds();
                Check.tell(f, letters[fuel] + number);
                spanIs(f, fuel, 0, number);
                spanIs(f, (fuel + 1) % 3, 0, 100);
                spanIs(f, (fuel + 2) % 3, 0, 100);
            }
        }
        lawIs("g200", 0);
        lawIs("g201", -103);
        lawIs("g210", -103);
        lawIs("g300", -103);
        lawIs("g1000", -104);
        lawIs("g2000", -104);
        lawIs("c5 w201 x", -106);
        lawIs("g99999999999999999999", -103);
        lawIs("g4294967297", -103);
    }

    private static void lawDays() {
        check.says("@ and a number 0 .. 500; too great: at the digit by which it is");
        for (int number = 0; number <= 5100; number++) {
            numberIs("@", number, 500);
        }
        for (int number : new int[] {1, 9, 10, 99, 100, 499, 500}) {
            FlueRounds f = new FlueRounds();
            Check.tell(f, "@" + number + "w3");
            spanIs(f, 1, number - 1, 100);
            spanIs(f, 1, number, 3);
        }
        lawIs("@500", 0);
        lawIs("@501", -103);
        lawIs("@510", -103);
        lawIs("@600", -103);
        lawIs("@1000", -104);
        lawIs("@5000", -104);
        lawIs("@4294967296", -104);
    }

    private static void lawZeroAhead() {
        check.says("no 0 ahead of them");
        lawIs("g0", -101);
        lawIs("g01", -101);
        lawIs("w00", -101);
        lawIs("c0200", -101);
        lawIs("@0", 0);
        lawIs("@00", -102);
        lawIs("@01", -102);
        lawIs("@0500", -102);
        lawIs("@0 5", -103);
        lawIs("@0g1", 0);
        lawIs("g10", 0);
        lawIs("g100", 0);
        lawIs("@100", 0);
    }

    private static void lawFirstFault() {
        check.says("A FAULT is the place of the first byte that cannot stand there: of two, and at either end");
        lawIs("xx", -100);
        lawIs(" xg", -101);
        lawIs("g1 x g0", -103);
        lawIs("g201 w201", -103);
        lawIs("x" + " ".repeat(59), -100);
        lawIs(" ".repeat(59) + "x", -159);
        lawIs(" ".repeat(58) + "g0", -159);
        lawIs(" ".repeat(56) + "g201", -159);
        lawIs(" ".repeat(56) + "@501", -159);
        lawIs(" ".repeat(57) + "@00", -159);
    }

    private static void lawMissingAtItsEnd() {
        check.says("the text's length, if one is missing at its end");
        for (String last : new String[] {"g", "w", "c", "@"}) {
            lawIs(last, -101);
            lawIs("g5" + last, -103);
            lawIs("@5 " + last, -104);
            lawIs(" ".repeat(58) + last, -159);
            lawIs(" ".repeat(59) + last, -160);
        }
    }

    private static void lawFaultStays() {
        check.says("-100 less the place of its FAULT (it stays as it is)");
        behind(f -> Check.write(f, "g5 x")).refuse("law() of 'g5 x'", -103, FlueRounds::law);
        behind(f -> Check.write(f, "w7@")).refuse("law() of 'w7@'", -103, FlueRounds::law);
        behind(f -> {
            Pasts.busy(f);
            f.type('x', 1);
        }).refuse("law() of 'g5 w7x'", -105, FlueRounds::law);
        FlueRounds f = new FlueRounds();
        Check.write(f, "g5 w");
        check.is("law() of 'g5 w'", f.law(), -104);
        check.is("a digit comes to it", f.type('8', 1), 5);
        check.is("law() of 'g5 w8'", f.law(), 0);
        spanIs(f, 0, 0, 5);
        spanIs(f, 1, 0, 8);
    }

    private static void lawEmptiesTheDraft() {
        check.says("law: THE DRAFT becomes a LAW, and is empty then: its number");
        FlueRounds f = new FlueRounds();
        for (int number = 0; number < 6; number++) {
            check.is("law()", Check.tell(f, "c" + (number + 1)), number);
            check.is("bytes behind it", f.count(2), 0);
            check.is("LAWS behind it", f.count(3), number + 1);
            spanIs(f, 2, 0, number + 1);
        }
    }

    private static void lawsOfMostItems() {
        check.says("A LAW (6 at most) of 60 bytes: all of them stay");
        FlueRounds f = new FlueRounds();
        for (int i = 1; i <= 6; i++) {
            check.is("a LAW of thirty ITEMS", Check.tell(f, "w9c9" + "g8".repeat(27) + "g" + i), i - 1);
            f.days(1);
        }
        for (int i = 1; i <= 6; i++) {
            spanIs(f, 0, i - 1, i);
            spanIs(f, 1, i - 1, 9);
            spanIs(f, 2, i - 1, 9);
        }
        spanIs(f, 0, 500, 6);
    }

    private static void lawsAreFull() {
        check.says("A LAW (6 at most); FULL");
        behind(f -> {
            Pasts.fullLaws(f);
            Check.write(f, "w9");
        }).refuse("a seventh LAW", FULL, FlueRounds::law);
        behind(f -> {
            Pasts.fullLaws(f);
            Check.write(f, "g9".repeat(30));
        }).refuse("a long seventh LAW", FULL, FlueRounds::law);
        FlueRounds f = new FlueRounds();
        Pasts.fullLaws(f);
        Check.write(f, "w9");
        check.is("law()", f.law(), FULL);
        check.is("its bytes stay", f.count(2), 2);
        check.is("the text that stays is no FAULT", f.law(), FULL);
        f.type('x', 1);
        check.is("it is 'w9x' then", f.law(), -102);
        check.is("clear()", f.clear(), 3);
        check.is("LAWS", f.count(3), 6);
        f.days(50);
        check.is("a later DAY makes no room", Check.tell(f, "w9"), FULL);
        spanIs(f, 0, 0, 6);
    }

    private static void lawRefusalsInTheirOrder() {
        check.says("law: STATE, then the FAULT, then FULL");
        behind(Pasts::fullLaws).refuse("law() of no bytes", STATE, FlueRounds::law);
        behind(f -> {
            Pasts.fullLaws(f);
            Check.write(f, "g");
        }).refuse("law() of 'g'", -101, FlueRounds::law);
        behind(f -> {
            Pasts.fullLaws(f);
            Check.write(f, "g5 x");
        }).refuse("law() of 'g5 x'", -103, FlueRounds::law);
    }

    // ---- promise 5, and the terms of a LAW that only span() shows

    private static void itemsHoldFromTheirDay() {
        check.says("what stands behind it holds from that DAY on");
        FlueRounds f = new FlueRounds();
        Check.tell(f, "@1g2@30w20c5@500g7");
        spanIs(f, 0, 0, 100);
        spanIs(f, 0, 1, 2);
        spanIs(f, 1, 29, 100);
        spanIs(f, 1, 30, 20);
        spanIs(f, 2, 29, 100);
        spanIs(f, 2, 30, 5);
        spanIs(f, 0, 499, 2);
        spanIs(f, 0, 500, 7);
    }

    private static void itemsAheadOfTheFirstDay() {
        check.says("0 ahead of the first @");
        FlueRounds f = new FlueRounds();
        Check.tell(f, "g5@10w6");
        spanIs(f, 0, 0, 5);
        spanIs(f, 1, 0, 100);
        Check.tell(f, "@0g6");
        spanIs(f, 0, 0, 6);
        // The @ of one LAW says nothing of the next one.
        Check.tell(f, "@400c1");
        Check.tell(f, "c8");
        spanIs(f, 2, 0, 8);
        Check.tell(f, "@400");
        spanIs(f, 2, 400, 100);
    }

    private static void theLastItemCounts() {
        check.says("the last ITEM of the FUEL that holds by that DAY");
        FlueRounds f = new FlueRounds();
        Check.tell(f, "g1g2@5g3g4");
        spanIs(f, 0, 4, 2);
        spanIs(f, 0, 5, 4);
        Check.tell(f, "@50g10@20g5@60g7");
        spanIs(f, 0, 19, 100);
        spanIs(f, 0, 20, 5);
        spanIs(f, 0, 50, 5);
        spanIs(f, 0, 59, 5);
        spanIs(f, 0, 60, 7);
        Check.tell(f, "@10w4@10w3@0w2");
        spanIs(f, 1, 10, 2);
    }

    private static void noItem() {
        check.says("100, if there is none");
        FlueRounds f = new FlueRounds();
        for (int fuel = 0; fuel < 3; fuel++) {
            spanIs(f, fuel, 0, 100);
            spanIs(f, fuel, 500, 100);
        }
        Check.tell(f, "g5");
        spanIs(f, 1, 0, 100);
        spanIs(f, 2, 500, 100);
        Check.tell(f, "@3");
        spanIs(f, 0, 2, 100);
        spanIs(f, 0, 3, 100);
        Check.tell(f, "@500c5");
        spanIs(f, 2, 499, 100);
    }

    private static void lawInForceFromItsDay() {
        check.says("A LAW is in force from the DAY on which it was told");
        FlueRounds f = new FlueRounds();
        f.days(10);
        Check.tell(f, "g20w30");
        f.days(1);
        Check.tell(f, "g40");
        spanIs(f, 0, 0, 100);
        spanIs(f, 0, 9, 100);
        spanIs(f, 0, 10, 20);
        spanIs(f, 0, 11, 40);
        spanIs(f, 1, 10, 30);
        spanIs(f, 1, 11, 100);
        Check.goTo(f, 500);
        Check.tell(f, "g60");
        spanIs(f, 0, 499, 40);
        spanIs(f, 0, 500, 60);
    }

    private static void laterLawOfOneDay() {
        check.says("of two of one DAY the later one");
        FlueRounds f = new FlueRounds();
        Check.tell(f, "g20w30");
        Check.tell(f, "g40");
        spanIs(f, 0, 0, 40);
        spanIs(f, 1, 0, 100);
        f.days(7);
        Check.tell(f, "g50");
        Check.tell(f, "@9g60");
        spanIs(f, 0, 6, 40);
        spanIs(f, 0, 7, 100);
        spanIs(f, 0, 8, 100);
        spanIs(f, 0, 9, 60);
    }

    private static void spanRanges() {
        check.says("span: of a FUEL on a DAY (0 .. 500)");
        FlueRounds f = new FlueRounds();
        Check.tell(f, "g11w12c13");
        for (int fuel = 0; fuel < 3; fuel++) {
            spanIs(f, fuel, 0, 11 + fuel);
            spanIs(f, fuel, 500, 11 + fuel);
        }
        for (int wrong : new int[] {-1, 3, Integer.MIN_VALUE, Integer.MAX_VALUE}) {
            behind(Pasts::busy).refuse("span(" + wrong + ", 0)", BAD, g -> g.span(wrong, 0));
        }
        for (int wrong : new int[] {-1, 501, Integer.MIN_VALUE, Integer.MAX_VALUE}) {
            behind(Pasts::busy).refuse("span(0, " + wrong + ")", BAD, g -> g.span(0, wrong));
            behind(Pasts::lastDay).refuse("span(2, " + wrong + ")", BAD, g -> g.span(2, wrong));
        }
        behind(Pasts::none).refuse("span(3, 501)", BAD, g -> g.span(3, 501));
    }

    private static void spanByLawsToldByNow() {
        check.says("span: by LAWS told by now");
        FlueRounds f = new FlueRounds();
        spanIs(f, 0, 5, 100);
        f.days(5);
        Check.tell(f, "g9");
        spanIs(f, 0, 4, 100);
        spanIs(f, 0, 5, 9);
        spanIs(f, 0, 6, 9);
        f.days(1);
        Check.tell(f, "g8");
        spanIs(f, 0, 5, 9);
        spanIs(f, 0, 6, 8);
        f.type('g', 1);
        spanIs(f, 0, 6, 8);
    }

    // ---- promise 6

    private static void daysOneToFifty() {
        check.says("So many DAYS (1 .. 50) later: TODAY");
        FlueRounds f = new FlueRounds();
        check.is("days(1)", f.days(1), 1);
        check.is("days(50)", f.days(50), 51);
        check.is("count(1)", f.count(1), 51);
        for (int n : new int[] {0, 51, -1, -50, Integer.MIN_VALUE, Integer.MAX_VALUE}) {
            behind(Pasts::none).refuse("days(" + n + ")", BAD, g -> g.days(n));
            behind(Pasts::busy).refuse("days(" + n + ")", BAD, g -> g.days(n));
        }
    }

    private static void daysUpToTheLast() {
        check.says("500 at most; STATE: above 500");
        for (int n : new int[] {1, 2, 25, 49, 50}) {
            FlueRounds f = new FlueRounds();
            Check.goTo(f, 500 - n);
            check.is("days(" + n + ") up to 500", f.days(n), 500);
            behind(g -> Check.goTo(g, 501 - n)).refuse("days(" + n + ") up to 501", STATE, g -> g.days(n));
            behind(Pasts::lastDay).refuse("days(" + n + ") behind 500", STATE, g -> g.days(n));
        }
        FlueRounds f = new FlueRounds();
        Check.goTo(f, 499);
        check.is("days(2) behind 499", f.days(2), STATE);
        check.is("days(1) behind 499", f.days(1), 500);
    }

    private static void daysBadAheadOfState() {
        check.says("days: BAD ahead of STATE");
        for (int n : new int[] {51, Integer.MAX_VALUE, 0, -1}) {
            behind(Pasts::lastDay).refuse("days(" + n + ") on 500", BAD, f -> f.days(n));
        }
    }

    // ---- what is promised of all calls

    private static void theLastOfItsCalls() {
        check.says("An object is used for at most 512 calls");
        FlueRounds f = new FlueRounds();
        f.flue(2, 0, 1, 10, 0, 0, 0, 0);
        for (int i = 0; i < 510; i++) {
            f.draught(0);
        }
        check.is("trace(), the call 512", f.trace(), 510 * 111);
        // What is answered behind it is free, but no call may throw.
        for (int i = 0; i < 2000; i++) {
            Pasts.fullDraft(f);
            f.law();
            f.days(50);
            Check.plain(f, 0, 0, 0, 0);
            f.look(0, i, i % 3 == 0);
            f.fire(0, i);
            f.refuse(0);
            f.sweep(0);
            f.round(0, 6, 800);
        }
    }
}
