/** Promises 18 to 24 at their edges: a test for each sentence that names one. */
public final class EdgesOfHandsTest {
    private static final int BAD = FlueRounds.BAD, NONE = FlueRounds.NONE;
    private static final int[] NO_HANDS = {-1, 4, Integer.MIN_VALUE, Integer.MAX_VALUE};
    private static final Check check = new Check();

    public static void main(String[] args) {
        rateOneToNine();
        illOfHands();
        doerIsItsHand();
        doerIsTheNearest();
        doerOfLikeOnes();
        doerOfThoseThatHaveNone();
        doerOfAllIll();
        feesOfHands();
        feesOfNoneAndOfMost();
        roundOfHands();
        roundOfOneToSix();
        roundByDays();
        roundOfTheFirst();
        roundOfNone();
        roundWithoutForbidden();
        roundByTheLeastWay();
        roundOfLikeWays();
        roundStaysBehindBad();
        atNumbers();
        atPlaces();
        atAheadOfARound();
        countNumbers();
        countsOfNone();
        countsOfMost();
        traceOfNothing();
        traceAsOftenAsAsked();
        check.end("EdgesOfHandsTest");
    }

    private static Twins behind(java.util.function.Consumer<FlueRounds> past) {
        return new Twins(check, past);
    }

    // ---- promise 18

    private static void rateOneToNine() {
        check.says("THE RATE (1 .. 9; 1 at first) becomes v: what it was");
        FlueRounds f = new FlueRounds();
        int was = 1;
        for (int v : new int[] {9, 1, 2, 8, 8, 1}) {
            check.is("rate(" + v + ")", f.rate(v), was);
            was = v;
        }
        for (int v : new int[] {0, 10, -1, Integer.MIN_VALUE, Integer.MAX_VALUE}) {
            behind(Pasts::none).refuse("rate(" + v + ")", BAD, g -> g.rate(v));
            behind(Pasts::busy).refuse("rate(" + v + ")", BAD, g -> g.rate(v));
        }
    }

    // ---- promise 19, and THE DOER

    private static void illOfHands() {
        check.says("A HAND (0 .. 3) is ILL, or not any more: what it was (1, 0)");
        for (int hand = 0; hand < 4; hand++) {
            FlueRounds f = new FlueRounds();
            check.is("ill(" + hand + ", true)", f.ill(hand, true), 0);
            check.is("ill(" + hand + ", true) again", f.ill(hand, true), 1);
            for (int other = 0; other < 4; other++) {
                check.is("ill(" + other + ", false)", f.ill(other, false), other == hand ? 1 : 0);
            }
            check.is("ill(" + hand + ", false) again", f.ill(hand, false), 0);
        }
        for (int hand : NO_HANDS) {
            behind(Pasts::busy).refuse("ill(" + hand + ", true)", BAD, f -> f.ill(hand, true));
            behind(Pasts::allIll).refuse("ill(" + hand + ", false)", BAD, f -> f.ill(hand, false));
        }
    }

    private static void doerIsItsHand() {
        check.says("THE DOER of a FLUE is its HAND");
        FlueRounds f = new FlueRounds();
        Check.plain(f, 0, 10, 10, 2);
        Check.plain(f, 0, 10, 10, 0);
        check.is("its HAND, though a lesser one is as near", f.about(0, 7), 2);
        f.ill(0, true);
        f.ill(1, true);
        f.ill(3, true);
        check.is("its HAND, the only one that is not ILL", f.about(0, 7), 2);
    }

    private static void doerIsTheNearest() {
        check.says("of HANDS that are not the one with a FLUE (its own) nearest to this one");
        FlueRounds f = new FlueRounds();
        Check.plain(f, 0, 0, 0, 0);
        Check.plain(f, 0, 20, 20, 1);
        Check.plain(f, 0, 20, 19, 2);
        f.ill(0, true);
        check.is("39 away, not 40", f.about(0, 7), 2);
        Check.plain(f, 0, 0, 20, 1);
        check.is("20 away by its other FLUE", f.about(0, 7), 1);
        Check.plain(f, 0, 19, 0, 3);
        check.is("19 away", f.about(0, 7), 3);
        Check.plain(f, 0, 0, 0, 2);
        check.is("0 away", f.about(0, 7), 2);
        f.ill(2, true);
        check.is("0 away is ILL", f.about(0, 7), 3);
        f.ill(3, true);
        check.is("19 away is ILL too", f.about(0, 7), 1);
        FlueRounds ends = new FlueRounds();
        Check.plain(ends, 0, 9, 9, 3);
        for (int i = 0; i < 10; i++) {
            Check.plain(ends, 0, 10, 10, 0);
        }
        Check.plain(ends, 0, 10, 11, 2);
        ends.ill(0, true);
        check.is("the last FLUE is nearest", ends.about(5, 7), 2);
        ends.ill(2, true);
        check.is("the first FLUE is nearest", ends.about(5, 7), 3);
        check.is("the first FLUE is nearest to the last", ends.about(11, 7), 3);
    }

    private static void doerOfLikeOnes() {
        check.says("of like ones the least HAND");
        FlueRounds f = new FlueRounds();
        Check.plain(f, 0, 10, 10, 1);
        Check.plain(f, 0, 10, 13, 3);
        Check.plain(f, 0, 8, 9, 2);
        f.ill(1, true);
        check.is("2 ahead of 3, though it came later", f.about(0, 7), 2);
        Check.plain(f, 0, 13, 10, 0);
        check.is("0 ahead of 2", f.about(0, 7), 0);
        f.ill(0, true);
        check.is("2 behind 0", f.about(0, 7), 2);
        FlueRounds rising = new FlueRounds();
        Check.plain(rising, 0, 10, 10, 3);
        Check.plain(rising, 0, 10, 12, 0);
        Check.plain(rising, 0, 12, 10, 1);
        rising.ill(3, true);
        check.is("0 ahead of 1, that came later", rising.about(0, 7), 0);
    }

    private static void doerOfThoseThatHaveNone() {
        check.says("of HANDS that have none the least that is not ILL, if no other one has any");
        FlueRounds f = new FlueRounds();
        Check.plain(f, 0, 0, 0, 0);
        f.ill(0, true);
        check.is("the least of 1, 2, 3", f.about(0, 7), 1);
        f.ill(1, true);
        check.is("the least of 2, 3", f.about(0, 7), 2);
        Check.plain(f, 0, 20, 20, 3);
        check.is("3 has one, 2 has none", f.about(0, 7), 3);
        f.ill(3, true);
        check.is("3 has one, but it is ILL", f.about(0, 7), 2);
        check.is("that of 3 goes the same way", f.about(1, 7), 2);
    }

    private static void doerOfAllIll() {
        check.says("NONE, if all are ILL");
        FlueRounds f = new FlueRounds();
        Pasts.fullFlues(f);
        Pasts.allIll(f);
        for (int flue = 0; flue < 12; flue++) {
            check.is("about(" + flue + ", 7)", f.about(flue, 7), NONE);
        }
        f.ill(3, false);
        for (int flue = 0; flue < 12; flue++) {
            check.is("about(" + flue + ", 7) with 3", f.about(flue, 7), 3);
        }
    }

    // ---- promise 20

    private static void feesOfHands() {
        check.says("FEES of a HAND (what = 0), how many sweeps it did (1)");
        FlueRounds f = new FlueRounds();
        Check.plain(f, 0, 0, 0, 3);
        f.sweep(0);
        check.is("fees(3, 0)", f.fees(3, 0), 5);
        check.is("fees(3, 1)", f.fees(3, 1), 1);
        check.is("fees(2, 0)", f.fees(2, 0), 0);
        for (int what : new int[] {0, 1}) {
            for (int hand : NO_HANDS) {
                behind(Pasts::busy).refuse("fees(" + hand + ", " + what + ")", BAD, g -> g.fees(hand, what));
            }
        }
        for (int what : new int[] {-1, 2, Integer.MIN_VALUE, Integer.MAX_VALUE}) {
            behind(Pasts::busy).refuse("fees(0, " + what + ")", BAD, g -> g.fees(0, what));
            behind(Pasts::busy).refuse("fees(4, " + what + ")", BAD, g -> g.fees(4, what));
        }
    }

    private static void feesOfNoneAndOfMost() {
        check.says("FEES: for the HAND that did it; SWEEPS (100 at most) stay");
        FlueRounds f = new FlueRounds();
        for (int hand = 0; hand < 4; hand++) {
            check.is("fees(" + hand + ", 0) of none", f.fees(hand, 0), 0);
            check.is("fees(" + hand + ", 1) of none", f.fees(hand, 1), 0);
        }
        f.flue(0, 0, 30, 10, 0, 0, 0, 1);
        f.rate(9);
        f.sweep(0);
        f.ill(1, true);
        for (int i = 0; i < 99; i++) {
            f.sweep(0);
        }
        f.ill(1, false);
        check.is("its own one", f.fees(1, 0), 270);
        check.is("the HAND that did it", f.fees(0, 0), 99 * 270);
        check.is("how many", f.fees(0, 1), 99);
        check.is("one that is FULL", f.sweep(0), FlueRounds.FULL);
        check.is("fees behind FULL", f.fees(1, 0), 270);
        check.is("sweeps behind FULL", f.fees(1, 1), 1);
        f.rate(1);
        check.is("fees by another RATE", f.fees(1, 0), 270);
    }

    // ---- promise 21

    private static void rowIs(FlueRounds f, String what, int way, int... flues) {
        for (int i = 0; i < 6; i++) {
            check.is(what + ": at(" + i + ")", f.at(i), i < flues.length ? flues[i] : NONE);
        }
        check.is(what + ": at(6)", f.at(6), way);
    }

    /** Twelve FLUES of HAND 0 in a line; by DUE they come from the last to the first. */
    private static FlueRounds inALine() {
        FlueRounds f = new FlueRounds();
        Check.tell(f, "g30w20c10");
        for (int i = 0; i < 12; i++) {
            Check.plain(f, i / 4, i, 0, 0);
        }
        return f;
    }

    private static void roundOfHands() {
        check.says("round: BAD: hand");
        for (int hand = 0; hand < 4; hand++) {
            FlueRounds f = new FlueRounds();
            Check.plain(f, 0, 1, 1, hand);
            for (int other = 0; other < 4; other++) {
                check.is("round(" + other + ", 1, 100)", f.round(other, 1, 100), other == hand ? 1 : 0);
            }
        }
        for (int hand : NO_HANDS) {
            behind(Pasts::busy).refuse("round(" + hand + ", 1, 0)", BAD, f -> f.round(hand, 1, 0));
            behind(Pasts::busy).refuse("round(" + hand + ", 6, 800)", BAD, f -> f.round(hand, 6, 800));
        }
    }

    private static void roundOfOneToSix() {
        check.says("round: BAD: n (1 .. 6): the first n of them");
        for (int n = 1; n <= 6; n++) {
            check.is("round of " + n + " from twelve", inALine().round(0, n, 800), n);
        }
        for (int has = 0; has <= 6; has++) {
            FlueRounds f = new FlueRounds();
            for (int i = 0; i < has; i++) {
                Check.plain(f, 0, i, i, 0);
            }
            check.is("round of 6 from " + has, f.round(0, 6, 800), has);
            check.is("round of 1 from " + has, f.round(0, 1, 800), Math.min(has, 1));
        }
        for (int n : new int[] {0, 7, -1, Integer.MIN_VALUE, Integer.MAX_VALUE}) {
            behind(Pasts::none).refuse("round(0, " + n + ", 0)", BAD, f -> f.round(0, n, 0));
            behind(Pasts::busy).refuse("round(0, " + n + ", 800)", BAD, f -> f.round(0, n, 800));
            behind(Pasts::fullFlues).refuse("round(0, " + n + ", 800)", BAD, f -> f.round(0, n, 800));
        }
    }

    private static void roundByDays() {
        check.says("round: BAD: day 0 .. 800; DUE by that DAY");
        FlueRounds f = new FlueRounds();
        Check.tell(f, "g1");
        Check.plain(f, 0, 2, 3, 0);
        check.is("by 0", f.round(0, 6, 0), 0);
        check.is("by DUE", f.round(0, 6, 1), 1);
        check.is("by 800", f.round(0, 6, 800), 1);
        Check.goTo(f, 500);
        f.sweep(0);
        Check.tell(f, "g200");
        check.is("a DAY ahead of the farthest DUE", f.round(0, 6, 699), 0);
        check.is("by the farthest DUE", f.round(0, 6, 700), 1);
        check.is("by the last DAY", f.round(0, 6, 800), 1);
        check.is("by a DAY that is gone", f.round(0, 6, 0), 0);
        for (int day : new int[] {-1, 801, Integer.MIN_VALUE, Integer.MAX_VALUE}) {
            behind(Pasts::none).refuse("round(0, 1, " + day + ")", BAD, g -> g.round(0, 1, day));
            behind(Pasts::busy).refuse("round(0, 6, " + day + ")", BAD, g -> g.round(0, 6, day));
        }
        behind(Pasts::busy).refuse("round(4, 7, 801)", BAD, g -> g.round(4, 7, 801));
    }

    private static void roundOfTheFirst() {
        check.says("the first n of them by DUE, then by number");
        FlueRounds f = inALine();
        f.round(0, 1, 800);
        rowIs(f, "the first", 16, 8);
        f.round(0, 3, 800);
        rowIs(f, "the first of like DUE", 20, 8, 9, 10);
        f.round(0, 5, 800);
        rowIs(f, "all of the first DUE and one of the next", 22, 4, 8, 9, 10, 11);
        f.round(0, 6, 800);
        rowIs(f, "the first six", 22, 4, 5, 8, 9, 10, 11);
        check.is("a DAY ahead of the first DUE", f.round(0, 6, 9), 0);
        check.is("by the first DUE", f.round(0, 6, 10), 4);
        check.is("a DAY ahead of the second", f.round(0, 6, 19), 4);
        check.is("by the second", f.round(0, 6, 20), 6);
        f.sweep(8);
        f.days(1);
        f.sweep(9);
        f.round(0, 3, 800);
        // Swept on a DAY later, 9 is DUE behind 8, 10 and 11.
        rowIs(f, "behind a sweep", 22, 8, 10, 11);
    }

    private static void roundOfNone() {
        check.says("THE ROUND of a HAND: how many FLUES it has: none");
        FlueRounds f = new FlueRounds();
        check.is("without FLUES", f.round(0, 6, 800), 0);
        rowIs(f, "without FLUES", 0);
        Check.plain(f, 0, 5, 5, 0);
        f.round(0, 6, 800);
        rowIs(f, "of one", 20, 0);
        check.is("of a HAND that has none", f.round(1, 6, 800), 0);
        rowIs(f, "of a HAND that has none", 0);
        f.round(0, 6, 800);
        Pasts.allIll(f);
        check.is("with all ILL", f.round(0, 6, 800), 0);
        rowIs(f, "with all ILL", 0);
    }

    private static void roundWithoutForbidden() {
        check.says("FLUES it is THE DOER of, not FORBIDDEN");
        FlueRounds f = new FlueRounds();
        for (int i = 0; i < 3; i++) {
            Check.plain(f, 0, i + 1, 0, 0);
        }
        Check.plain(f, 0, 9, 0, 1);
        f.refuse(0);
        f.refuse(0);
        check.is("with two REFUSALS", f.round(0, 6, 800), 3);
        f.refuse(0);
        check.is("with three", f.round(0, 6, 800), 2);
        rowIs(f, "with three", 6, 1, 2);
        f.look(1, 0, false);
        f.round(0, 6, 800);
        rowIs(f, "with one that is ILL", 6, 2);
        f.ill(1, true);
        f.round(0, 6, 800);
        rowIs(f, "with one of an ILL HAND", 18, 2, 3);
        f.look(3, 0, false);
        f.look(2, 0, false);
        check.is("with all FORBIDDEN", f.round(0, 6, 800), 0);
        rowIs(f, "with all FORBIDDEN", 0);
    }

    private static void roundByTheLeastWay() {
        check.says("the least way from 0, 0 through all their PLACES and back");
        FlueRounds f = new FlueRounds();
        int[][] places = {{0, 0}, {20, 20}, {0, 20}, {20, 0}, {10, 20}, {20, 10}};
        for (int[] p : places) {
            Check.plain(f, 0, p[0], p[1], 0);
        }
        check.is("round of six", f.round(0, 6, 800), 6);
        rowIs(f, "round of six", 80, 0, 2, 4, 1, 5, 3);
        FlueRounds home = new FlueRounds();
        Check.plain(home, 0, 0, 0, 0);
        check.is("round of one at 0, 0", home.round(0, 6, 800), 1);
        rowIs(home, "round of one at 0, 0", 0, 0);
        FlueRounds greatest = new FlueRounds();
        for (int i = 0; i < 12; i++) {
            Check.plain(greatest, 0, 20, 20, 0);
        }
        greatest.round(0, 6, 800);
        rowIs(greatest, "six of one far PLACE", 80, 0, 1, 2, 3, 4, 5);
    }

    private static void roundOfLikeWays() {
        check.says("of like ones the first row, by numbers of FLUES");
        FlueRounds f = new FlueRounds();
        Check.plain(f, 0, 4, 4, 0);
        Check.plain(f, 0, 0, 4, 0);
        Check.plain(f, 0, 4, 0, 0);
        f.round(0, 2, 800);
        rowIs(f, "of two", 16, 0, 1);
        f.round(0, 6, 800);
        rowIs(f, "of three", 16, 1, 0, 2);
        FlueRounds same = new FlueRounds();
        for (int i = 0; i < 6; i++) {
            Check.plain(same, 0, 7, 7, 0);
        }
        same.round(0, 6, 800);
        rowIs(same, "of one PLACE", 28, 0, 1, 2, 3, 4, 5);
    }

    private static void roundStaysBehindBad() {
        check.says("Refused, and nothing changes: THE ROUND told latest");
        FlueRounds f = inALine();
        f.round(0, 3, 800);
        int[][] wrong = {{-1, 1, 0}, {4, 1, 0}, {0, 0, 0}, {0, 7, 0}, {0, 1, -1}, {0, 1, 801}};
        for (int[] w : wrong) {
            check.is("round", f.round(w[0], w[1], w[2]), BAD);
            rowIs(f, "behind BAD", 20, 8, 9, 10);
        }
        f.sweep(8);
        f.days(50);
        f.look(9, 0, false);
        f.ill(0, true);
        rowIs(f, "behind other calls", 20, 8, 9, 10);
    }

    // ---- promise 22

    private static void atNumbers() {
        check.says("at: i 0 .. 5, its way (i = 6); BAD");
        for (int i : new int[] {-1, 7, Integer.MIN_VALUE, Integer.MAX_VALUE}) {
            behind(Pasts::none).refuse("at(" + i + ")", BAD, f -> f.at(i));
            behind(Pasts::busy).refuse("at(" + i + ")", BAD, f -> f.at(i));
        }
        FlueRounds f = inALine();
        f.round(0, 6, 800);
        check.is("at(0)", f.at(0), 4);
        check.is("at(5)", f.at(5), 11);
        check.is("at(6)", f.at(6), 22);
    }

    private static void atPlaces() {
        check.says("The FLUE at place i of THE ROUND told latest; NONE: there is none");
        // From the longest to the shortest, so that a place could still hold what an earlier one had.
        FlueRounds f = inALine();
        for (int n = 6; n >= 1; n--) {
            f.round(0, n, 800);
            for (int i = 0; i <= 5; i++) {
                check.isTrue("at(" + i + ") of " + n + " is NONE or not", f.at(i) == NONE == (i >= n));
            }
        }
    }

    private static void atAheadOfARound() {
        check.says("at: NONE: there is none: no ROUND was told");
        FlueRounds f = new FlueRounds();
        for (int i = 0; i <= 5; i++) {
            check.is("at(" + i + ") of a new object", f.at(i), NONE);
        }
        check.is("at(6) of a new object", f.at(6), 0);
        Pasts.fullFlues(f);
        f.round(0, 7, 800);
        check.is("at(0) behind BAD", f.at(0), NONE);
        check.is("at(6) behind BAD", f.at(6), 0);
    }

    // ---- promise 23

    private static void countNumbers() {
        check.says("count: what 0 .. 6; BAD");
        for (int what : new int[] {-1, 7, Integer.MIN_VALUE, Integer.MAX_VALUE}) {
            behind(Pasts::none).refuse("count(" + what + ")", BAD, f -> f.count(what));
            behind(Pasts::busy).refuse("count(" + what + ")", BAD, f -> f.count(what));
        }
        FlueRounds f = new FlueRounds();
        Pasts.busy(f);
        int[] want = {4, 20, 5, 2, 2, 2, 2};
        for (int what = 0; what <= 6; what++) {
            check.is("count(" + what + ")", f.count(what), want[what]);
        }
    }

    private static void countsOfNone() {
        check.says("count: nothing at all");
        FlueRounds f = new FlueRounds();
        for (int what = 0; what <= 6; what++) {
            check.is("count(" + what + ")", f.count(what), 0);
        }
    }

    private static void countsOfMost() {
        check.says("count: as many as there may be, and behind one more that is refused");
        FlueRounds f = new FlueRounds();
        Pasts.fullLaws(f);
        Pasts.fullDraft(f);
        Pasts.fullFlues(f);
        for (int i = 0; i < 101; i++) {
            f.sweep(0);
        }
        for (int i = 0; i < 31; i++) {
            f.look(0, 0, true);
        }
        for (int i = 0; i < 11; i++) {
            f.fire(0, 0);
        }
        f.law();
        f.type(' ', 1);
        Check.plain(f, 0, 0, 0, 0);
        Pasts.lastDay(f);
        f.days(1);
        int[] want = {12, 500, 60, 6, 30, 10, 100};
        for (int what = 0; what <= 6; what++) {
            check.is("count(" + what + ")", f.count(what), want[what]);
        }
    }

    // ---- promise 24

    private static void traceOfNothing() {
        check.says("THE TRACE: only draught() asks a body");
        FlueRounds f = new FlueRounds();
        check.is("trace() of a new object", f.trace(), 0);
        f.draught(0);
        f.draught(-1);
        check.is("trace() behind BAD", f.trace(), 0);
        Pasts.fullFlues(f);
        check.is("trace() behind flues", f.trace(), 0);
        f.sweep(2);
        f.about(2, 0);
        f.due(2);
        f.beyond();
        f.round(2, 6, 800);
        f.fire(2, 0);
        f.back(0, 4);
        f.trace();
        check.is("trace() behind other calls", f.trace(), 0);
    }

    private static void traceAsOftenAsAsked() {
        check.says("numbers in brackets come to THE TRACE as often as draught() asks that body");
        FlueRounds f = new FlueRounds();
        Pasts.fullFlues(f);
        long want = 0;
        for (int flue = 0; flue < 12; flue++) {
            f.draught(flue);
            want += new int[] {1, 11, 111}[flue % 3];
            check.is("trace() behind draught(" + flue + ")", f.trace(), want);
        }
        f.draught(12);
        check.is("trace() behind BAD", f.trace(), want);
        f.draught(0);
        f.draught(0);
        check.is("trace() behind two of one FLUE", f.trace(), want + 2);
    }
}
