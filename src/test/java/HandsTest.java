/** Promises 18 to 24: rate, ill, fees, round, at, count, trace. */
public final class HandsTest {
    private static final int BAD = FlueRounds.BAD, NONE = FlueRounds.NONE;
    private static final Check check = new Check();

    public static void main(String[] args) {
        rates();
        illHands();
        doersByWays();
        doersOfLikeWays();
        doersWithoutFlues();
        feesOfHands();
        roundRanges();
        roundTakesTheFirst();
        roundLeavesOut();
        roundRows();
        roundOfOneHand();
        roundStays();
        ats();
        counts();
        check.end("HandsTest");
    }

    private static void rates() {
        FlueRounds f = new FlueRounds();
        int[] wrong = {0, 10, -1, Integer.MIN_VALUE, Integer.MAX_VALUE};
        for (int v : wrong) {
            check.is("rate(" + v + ")", f.rate(v), BAD);
        }
        check.is("rate(9)", f.rate(9), 1);
        check.is("rate(0)", f.rate(0), BAD);
        check.is("rate(1)", f.rate(1), 9);
        check.is("rate(4)", f.rate(4), 1);
        f.flue(0, 0, 30, 10, 0, 0, 0, 0);
        check.is("sweep at rate 4", f.sweep(0), 120);
        f.rate(9);
        check.is("fees stay as they were", f.fees(0, 0), 120);
        check.is("sweep at rate 9", f.sweep(0), 270);
        check.is("fees of both", f.fees(0, 0), 390);
    }

    private static void illHands() {
        FlueRounds f = new FlueRounds();
        int[] wrong = {-1, 4, Integer.MIN_VALUE, Integer.MAX_VALUE};
        for (int hand : wrong) {
            check.is("ill(" + hand + ")", f.ill(hand, true), BAD);
        }
        for (int hand = 0; hand < 4; hand++) {
            check.is("ill(" + hand + ", false)", f.ill(hand, false), 0);
            check.is("ill(" + hand + ", true)", f.ill(hand, true), 0);
            check.is("ill(" + hand + ", true) again", f.ill(hand, true), 1);
            check.is("ill(" + hand + ", false) again", f.ill(hand, false), 1);
            check.is("ill(" + hand + ", false) at last", f.ill(hand, false), 0);
        }
    }

    private static void doersByWays() {
        FlueRounds f = new FlueRounds();
        Check.plain(f, 0, 10, 10, 0);
        Check.plain(f, 0, 4, 10, 1);
        Check.plain(f, 0, 13, 12, 2);
        Check.plain(f, 0, 10, 17, 3);
        Check.plain(f, 0, 20, 20, 3);
        check.is("its own HAND", f.about(0, 7), 0);
        f.ill(0, true);
        check.is("5 away", f.about(0, 7), 2);
        Check.plain(f, 0, 8, 8, 3);
        check.is("4 away", f.about(0, 7), 3);
        f.ill(3, true);
        check.is("5 away again", f.about(0, 7), 2);
        f.ill(2, true);
        check.is("6 away", f.about(0, 7), 1);
        f.ill(0, false);
        check.is("its own HAND again", f.about(0, 7), 0);
        check.is("another's own HAND", f.about(1, 7), 1);
        check.is("for an ILL one", f.about(4, 7), 0);
    }

    private static void doersOfLikeWays() {
        FlueRounds f = new FlueRounds();
        Check.plain(f, 0, 10, 10, 0);
        Check.plain(f, 0, 11, 11, 3);
        Check.plain(f, 0, 9, 9, 2);
        Check.plain(f, 0, 10, 12, 1);
        f.ill(0, true);
        check.is("of like ones the least", f.about(0, 7), 1);
        f.ill(1, true);
        check.is("then the next", f.about(0, 7), 2);
        f.ill(2, true);
        check.is("then the last", f.about(0, 7), 3);

        FlueRounds rising = new FlueRounds();
        Check.plain(rising, 0, 10, 10, 0);
        Check.plain(rising, 0, 11, 11, 2);
        Check.plain(rising, 0, 9, 9, 3);
        Check.plain(rising, 0, 10, 13, 1);
        rising.ill(0, true);
        check.is("a lesser HAND that is farther", rising.about(0, 7), 2);
    }

    private static void doersWithoutFlues() {
        FlueRounds f = new FlueRounds();
        Check.plain(f, 0, 0, 0, 1);
        f.ill(1, true);
        check.is("none has any: the least", f.about(0, 7), 0);
        f.ill(0, true);
        check.is("then the next", f.about(0, 7), 2);
        Check.plain(f, 0, 20, 20, 3);
        check.is("one that has any goes ahead", f.about(0, 7), 3);
        f.ill(3, true);
        check.is("it is ILL", f.about(0, 7), 2);
        f.ill(2, true);
        check.is("all are ILL", f.about(0, 7), NONE);
        f.ill(1, false);
        check.is("its own one is well", f.about(0, 7), 1);
        check.is("the other's", f.about(1, 7), 1);
    }

    private static void feesOfHands() {
        FlueRounds f = new FlueRounds();
        f.flue(0, 0, 3, 10, 0, 0, 0, 0);
        f.flue(0, 0, 30, 10, 0, 0, 0, 3);
        f.sweep(0);
        f.sweep(1);
        f.rate(2);
        f.sweep(1);
        int[][] want = {{3, 1}, {0, 0}, {0, 0}, {90, 2}};
        for (int hand = 0; hand < 4; hand++) {
            check.is("fees(" + hand + ", 0)", f.fees(hand, 0), want[hand][0]);
            check.is("fees(" + hand + ", 1)", f.fees(hand, 1), want[hand][1]);
        }
        int[] wrong = {-1, 4, Integer.MIN_VALUE, Integer.MAX_VALUE};
        for (int v : wrong) {
            check.is("fees(" + v + ", 0)", f.fees(v, 0), BAD);
            check.is("fees(0, " + v + ")", f.fees(0, v), BAD);
        }
        check.is("fees(0, 2)", f.fees(0, 2), BAD);
    }

    private static void roundRanges() {
        FlueRounds f = new FlueRounds();
        int[][] wrong = {{-1, 1, 0}, {4, 1, 0}, {0, 0, 0}, {0, 7, 0}, {0, 1, -1}, {0, 1, 801},
            {Integer.MAX_VALUE, 1, 0}, {0, Integer.MIN_VALUE, 0}, {0, 1, Integer.MAX_VALUE}};
        for (int[] w : wrong) {
            check.is("round(" + w[0] + ", " + w[1] + ", " + w[2] + ")", f.round(w[0], w[1], w[2]), BAD);
        }
        check.is("round(0, 1, 0)", f.round(0, 1, 0), 0);
        check.is("round(3, 6, 800)", f.round(3, 6, 800), 0);
        check.is("its way", f.at(6), 0);
    }

    private static void rowIs(FlueRounds f, String what, int way, int... flues) {
        for (int i = 0; i < 6; i++) {
            check.is(what + ": at(" + i + ")", f.at(i), i < flues.length ? flues[i] : NONE);
        }
        check.is(what + ": at(6)", f.at(6), way);
    }

    private static void roundTakesTheFirst() {
        FlueRounds f = new FlueRounds();
        Check.tell(f, "g30w20c10");
        Check.plain(f, 0, 1, 0, 0);
        Check.plain(f, 2, 2, 0, 0);
        Check.plain(f, 1, 3, 0, 0);
        Check.plain(f, 2, 4, 0, 0);
        Check.plain(f, 1, 5, 0, 0);
        check.is("round of 1", f.round(0, 1, 800), 1);
        rowIs(f, "round of 1", 4, 1);
        check.is("round of 3", f.round(0, 3, 800), 3);
        rowIs(f, "round of 3", 8, 1, 2, 3);
        check.is("round of 4", f.round(0, 4, 800), 4);
        rowIs(f, "round of 4", 10, 1, 2, 3, 4);
        check.is("round of 6", f.round(0, 6, 800), 5);
        rowIs(f, "round of 6", 10, 0, 1, 2, 3, 4);
        check.is("round by 19", f.round(0, 6, 19), 2);
        check.is("round by 20", f.round(0, 6, 20), 4);
        check.is("round by 9", f.round(0, 6, 9), 0);
        rowIs(f, "round by 9", 0);
        for (int i = 0; i < 7; i++) {
            Check.plain(f, 2, 20 - i, 20, 0);
        }
        check.is("round of 6 by number", f.round(0, 6, 800), 6);
        boolean[] has = new boolean[12];
        for (int i = 0; i < 6; i++) {
            has[f.at(i)] = true;
        }
        check.isTrue("the first six by DUE and number",
            has[1] && has[3] && has[5] && has[6] && has[7] && has[8]);
    }

    private static void roundLeavesOut() {
        FlueRounds f = new FlueRounds();
        Check.tell(f, "g10");
        for (int i = 0; i < 4; i++) {
            Check.plain(f, 0, i, 0, 0);
        }
        f.look(1, 0, false);
        for (int i = 0; i < 3; i++) {
            f.refuse(2);
        }
        check.is("round without FORBIDDEN ones", f.round(0, 2, 10), 2);
        rowIs(f, "round without FORBIDDEN ones", 6, 0, 3);
        f.look(1, 0, true);
        check.is("round with one again", f.round(0, 2, 10), 2);
        rowIs(f, "round with one again", 2, 0, 1);
    }

    private static void roundRows() {
        FlueRounds f = new FlueRounds();
        Check.tell(f, "g10");
        // One way of 8 goes through all of them; both directions of it are alike.
        Check.plain(f, 0, 2, 2, 0);
        Check.plain(f, 0, 2, 0, 0);
        Check.plain(f, 0, 0, 2, 0);
        check.is("round on a square", f.round(0, 6, 10), 3);
        rowIs(f, "round on a square", 8, 1, 0, 2);
        // Two of one PLACE come by their numbers.
        Check.plain(f, 0, 2, 0, 0);
        Check.plain(f, 0, 0, 0, 0);
        Check.plain(f, 0, 2, 2, 0);
        check.is("round of like PLACES", f.round(0, 6, 10), 6);
        rowIs(f, "round of like PLACES", 8, 1, 3, 0, 5, 2, 4);

        FlueRounds crossed = new FlueRounds();
        Check.tell(crossed, "g10");
        int[][] places = {{20, 3}, {1, 19}, {20, 20}, {2, 1}, {10, 0}, {0, 11}};
        for (int[] p : places) {
            Check.plain(crossed, 0, p[0], p[1], 1);
        }
        check.is("round of six", crossed.round(1, 6, 10), 6);
        rowIs(crossed, "round of six", 82, 3, 4, 0, 2, 1, 5);
    }

    private static void roundOfOneHand() {
        FlueRounds f = new FlueRounds();
        Check.tell(f, "g10");
        Check.plain(f, 0, 1, 1, 0);
        Check.plain(f, 0, 5, 5, 1);
        Check.plain(f, 0, 9, 9, 2);
        Check.plain(f, 0, 4, 4, 0);
        check.is("round of HAND 1", f.round(1, 6, 10), 1);
        rowIs(f, "round of HAND 1", 20, 1);
        f.ill(0, true);
        check.is("round of an ILL HAND", f.round(0, 6, 10), 0);
        check.is("round of THE DOER", f.round(1, 6, 10), 3);
        rowIs(f, "round of THE DOER", 20, 0, 1, 3);
        check.is("round of another", f.round(2, 6, 10), 1);
        rowIs(f, "round of another", 36, 2);
        for (int hand = 1; hand < 4; hand++) {
            f.ill(hand, true);
        }
        for (int hand = 0; hand < 4; hand++) {
            check.is("round with all ILL", f.round(hand, 6, 800), 0);
        }
    }

    private static void roundStays() {
        FlueRounds f = new FlueRounds();
        Check.tell(f, "g10");
        Check.plain(f, 0, 7, 0, 0);
        Check.plain(f, 0, 0, 3, 0);
        f.round(0, 6, 10);
        rowIs(f, "round", 20, 0, 1);
        check.is("a wrong round", f.round(0, 7, 10), BAD);
        f.sweep(0);
        f.look(1, 0, false);
        f.days(30);
        f.ill(0, true);
        Check.plain(f, 0, 1, 1, 1);
        rowIs(f, "round as it was told", 20, 0, 1);
        check.is("a later round", f.round(2, 6, 10), 0);
        rowIs(f, "a later round", 0);
    }

    private static void ats() {
        FlueRounds f = new FlueRounds();
        int[] wrong = {-1, 7, Integer.MIN_VALUE, Integer.MAX_VALUE};
        for (int i : wrong) {
            check.is("at(" + i + ")", f.at(i), BAD);
        }
        for (int i = 0; i < 6; i++) {
            check.is("at(" + i + ") of no round", f.at(i), NONE);
        }
    }

    private static void counts() {
        FlueRounds f = new FlueRounds();
        f.days(4);
        Check.tell(f, "g1");
        Check.tell(f, "g2");
        Check.write(f, "abcde");
        Check.plain(f, 0, 0, 0, 0);
        Check.plain(f, 0, 0, 0, 0);
        Check.plain(f, 0, 0, 0, 0);
        f.look(0, 4, true);
        for (int i = 0; i < 6; i++) {
            f.fire(0, 4);
        }
        for (int i = 0; i < 7; i++) {
            f.sweep(1);
        }
        int[] want = {3, 4, 5, 2, 1, 6, 7};
        for (int what = 0; what < 7; what++) {
            check.is("count(" + what + ")", f.count(what), want[what]);
        }
        int[] wrong = {-1, 7, Integer.MIN_VALUE, Integer.MAX_VALUE};
        for (int what : wrong) {
            check.is("count(" + what + ")", f.count(what), BAD);
        }
    }
}
