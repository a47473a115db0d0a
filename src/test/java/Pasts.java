/** What may have come ahead of a call: each of these is done on a new object. */
final class Pasts {
    private Pasts() {
    }

    static void none(FlueRounds f) {
    }

    /**
     * Something of each kind: DAY 20, two LAWS, "g5 w7" in THE DRAFT, FLUES 0 .. 3 (2 and 3 came on
     * DAY 5; 1 is ILL, 3 has two REFUSALS), LOOKS, FIRES 0 and 1, SWEEPS, THE RATE 3, HAND 3 ILL,
     * THE ROUND of FLUES 0 and 2, and a TRACE.
     */
    static void busy(FlueRounds f) {
        Check.tell(f, "g10 w20");
        f.flue(0, 0, 20, 10, 0, 3, 4, 0);
        f.flue(1, 1, 10, 20, 3, 5, 0, 1);
        f.days(5);
        f.flue(2, 2, 30, 10, 1, 0, 9, 3);
        f.flue(0, 0, 7, 10, 0, 8, 8, 0);
        f.look(0, 3, true);
        f.look(1, 4, false);
        f.fire(0, 4);
        f.fire(1, 5);
        f.rate(3);
        f.sweep(0);
        f.days(10);
        Check.tell(f, "c9 @30 g2");
        f.sweep(3);
        f.refuse(3);
        f.refuse(3);
        f.refuse(0);
        f.ill(3, true);
        f.days(5);
        f.draught(2);
        f.round(0, 2, 800);
        Check.write(f, "g5 w7");
    }

    /** Sixty bytes that are a LAW: one SPAN of each FUEL behind blanks. */
    static void fullDraft(FlueRounds f) {
        Check.write(f, " ".repeat(51) + "g11w12c13");
    }

    /** Six LAWS of one DAY; the last one tells g6. */
    static void fullLaws(FlueRounds f) {
        for (int i = 1; i <= 6; i++) {
            Check.tell(f, "g" + i);
        }
    }

    static void fullFlues(FlueRounds f) {
        for (int i = 0; i < 12; i++) {
            f.flue(i % 3, i % 3, i + 1, 10 + i, i % 5, i, 20 - i, i % 4);
        }
    }

    /** FLUE 0 came on DAY 5, it is DAY 10; thirty LOOKS of it, the latest ILL, and two REFUSALS. */
    static void fullLooks(FlueRounds f) {
        cameOnFive(f);
        f.refuse(0);
        f.refuse(0);
        for (int i = 0; i < 30; i++) {
            f.look(0, 5 + i % 6, false);
        }
    }

    /** FLUE 0 came on DAY 5, it is DAY 10; ten FIRES of it. */
    static void fullFires(FlueRounds f) {
        cameOnFive(f);
        for (int i = 0; i < 10; i++) {
            f.fire(0, 5 + i % 6);
        }
    }

    /** FLUE 0 came on DAY 5, FLUE 1 on DAY 10, which is TODAY. */
    static void cameOnFive(FlueRounds f) {
        f.days(5);
        Check.plain(f, 0, 3, 4, 0);
        f.days(5);
        Check.plain(f, 1, 5, 6, 1);
    }

    /** A hundred SWEEPS of FLUES 0 and 1 on DAY 0; it is DAY 1, and FLUE 0 has a REFUSAL. */
    static void fullSweeps(FlueRounds f) {
        Check.plain(f, 0, 3, 4, 0);
        Check.plain(f, 1, 5, 6, 1);
        for (int i = 0; i < 100; i++) {
            f.sweep(i % 2);
        }
        f.days(1);
        f.refuse(0);
    }

    static void allIll(FlueRounds f) {
        for (int hand = 0; hand < 4; hand++) {
            f.ill(hand, true);
        }
    }

    static void lastDay(FlueRounds f) {
        Check.goTo(f, 500);
    }
}
