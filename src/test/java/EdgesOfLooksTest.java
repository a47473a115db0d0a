/** Promises 14 to 17 at their edges: a test for each sentence that names one. */
public final class EdgesOfLooksTest {
    private static final int BAD = FlueRounds.BAD, STATE = FlueRounds.STATE, FULL = FlueRounds.FULL,
        NONE = FlueRounds.NONE;
    private static final int[] NO_DAYS = {-1, 11, 12, Integer.MIN_VALUE, Integer.MAX_VALUE};
    private static final Check check = new Check();

    public static void main(String[] args) {
        lookOnDays();
        lookAheadOfItsComing();
        looksAreFull();
        lookRefusalsInTheirOrder();
        lookThatIsWellEndsRefusals();
        lookThatIsIllEndsNone();
        forbiddenAsKnownToday();
        knownOnDays();
        knownOfNoLook();
        knownByTelling();
        knownByDays();
        knownOfLikeDays();
        fireOnDays();
        fireAheadOfItsComing();
        firesAreFull();
        fireRefusalsInTheirOrder();
        backNumbers();
        backOfNoSuchFire();
        ledBackToASweep();
        ledBackToItsComing();
        ledBackToBeyond();
        ledBackByLawsOfThen();
        ledBackToWhatWasKnown();
        check.end("EdgesOfLooksTest");
    }

    private static Twins behind(java.util.function.Consumer<FlueRounds> past) {
        return new Twins(check, past);
    }

    /** FLUE 0 came on DAY 5, FLUE 1 on DAY 10, which is TODAY. */
    private static FlueRounds onTen() {
        FlueRounds f = new FlueRounds();
        Pasts.cameOnFive(f);
        return f;
    }

    private static FlueRounds withFlue() {
        FlueRounds f = new FlueRounds();
        Check.plain(f, 0, 0, 0, 0);
        return f;
    }

    // ---- promise 14

    private static void lookOnDays() {
        check.says("look: BAD: the DAY is not 0 .. TODAY");
        check.is("look on the first DAY", withFlue().look(0, 0, true), 0);
        FlueRounds f = withFlue();
        check.is("look on DAY 1, which is to come", f.look(0, 1, true), BAD);
        f.days(10);
        check.is("look on 0", f.look(0, 0, false), 0);
        check.is("look on TODAY", f.look(0, 10, true), 1);
        Check.goTo(f, 500);
        check.is("look on the last DAY", f.look(0, 500, true), 2);
        check.is("look behind the last DAY", f.look(0, 501, true), BAD);
        for (int day : NO_DAYS) {
            behind(EdgesOfLooksTest::refusedTwice).refuse("look(0, " + day + ", true)", BAD, g -> g.look(0, day, true));
            behind(EdgesOfLooksTest::refusedTwice).refuse("look(0, " + day + ", false)", BAD, g -> g.look(0, day, false));
        }
    }

    /** So that a LOOK that is WELL would be seen by what it ends. */
    private static void refusedTwice(FlueRounds f) {
        Pasts.cameOnFive(f);
        f.refuse(0);
        f.refuse(0);
        f.refuse(1);
    }

    private static void lookAheadOfItsComing() {
        check.says("look: STATE: the FLUE came later");
        for (int day : new int[] {0, 1, 4}) {
            behind(EdgesOfLooksTest::refusedTwice).refuse("look(0, " + day + ", true)", STATE, f -> f.look(0, day, true));
            behind(EdgesOfLooksTest::refusedTwice).refuse("look(0, " + day + ", false)", STATE, f -> f.look(0, day, false));
        }
        behind(EdgesOfLooksTest::refusedTwice).refuse("look(1, 9, true)", STATE, f -> f.look(1, 9, true));
        FlueRounds f = onTen();
        check.is("look on the DAY on which it came", f.look(0, 5, true), 0);
        check.is("look on TODAY, on which it came", f.look(1, 10, true), 1);
    }

    private static void looksAreFull() {
        check.says("LOOKS (30 at most): its number; FULL");
        FlueRounds f = onTen();
        for (int i = 0; i < 30; i++) {
            check.is("look", f.look(i % 2, 10, i % 3 == 0), i);
            check.is("LOOKS", f.count(4), i + 1);
        }
        check.is("look 30", f.look(0, 10, true), FULL);
        for (int day : new int[] {5, 7, 10}) {
            behind(Pasts::fullLooks).refuse("look(0, " + day + ", true)", FULL, g -> g.look(0, day, true));
            behind(Pasts::fullLooks).refuse("look(0, " + day + ", false)", FULL, g -> g.look(0, day, false));
        }
        behind(Pasts::fullLooks).refuse("look(1, 10, false)", FULL, g -> g.look(1, 10, false));
        f.days(50);
        check.is("a later DAY makes no room", f.look(0, 60, true), FULL);
    }

    private static void lookRefusalsInTheirOrder() {
        check.says("look: BAD, then STATE, then FULL");
        // A DAY ahead of 0 is ahead of its coming as well.
        behind(Pasts::cameOnFive).refuse("BAD ahead of STATE", BAD, f -> f.look(0, -1, true));
        behind(Pasts::cameOnFive).refuse("no such FLUE, and no such DAY", BAD, f -> f.look(2, 11, true));
        behind(Pasts::fullLooks)
            .refuse("BAD ahead of STATE and FULL", BAD, f -> f.look(0, -1, true))
            .refuse("a DAY to come, and FULL", BAD, f -> f.look(0, 11, true))
            .refuse("no such FLUE, and FULL", BAD, f -> f.look(2, 10, true))
            .refuse("STATE ahead of FULL", STATE, f -> f.look(0, 4, true))
            .refuse("STATE ahead of FULL, of the other one", STATE, f -> f.look(1, 9, false));
    }

    private static void lookThatIsWellEndsRefusals() {
        check.says("so does a LOOK that is WELL, as it is told");
        for (int times = 0; times <= 3; times++) {
            FlueRounds f = onTen();
            f.refuse(1);
            for (int i = 0; i < times; i++) {
                f.refuse(0);
            }
            check.is("look", f.look(0, 5, true), 0);
            check.is("REFUSALS behind " + times + " and the LOOK", f.about(0, 5), 0);
            check.is("FORBIDDEN", f.about(0, 6), 0);
            check.is("REFUSALS of the other one", f.about(1, 5), 1);
        }
        // It ends them though a later DAY's LOOK leaves the FLUE ILL.
        FlueRounds f = onTen();
        f.refuse(0);
        f.look(0, 9, false);
        f.look(0, 8, true);
        check.is("REFUSALS", f.about(0, 5), 0);
        check.is("FORBIDDEN still", f.about(0, 6), 1);
        // REFUSALS that come behind it are not ended by it, though it is of their DAY.
        f.look(0, 9, true);
        check.is("refuse behind it", f.refuse(0), 1);
    }

    private static void lookThatIsIllEndsNone() {
        check.says("A REFUSAL: one more; only a LOOK that is WELL ends them");
        for (int times = 0; times <= 3; times++) {
            FlueRounds f = onTen();
            for (int i = 0; i < times; i++) {
                f.refuse(0);
            }
            f.look(0, 10, false);
            check.is("REFUSALS behind " + times, f.about(0, 5), times);
            check.is("FORBIDDEN", f.about(0, 6), 1);
        }
    }

    private static void forbiddenAsKnownToday() {
        check.says("A FLUE is FORBIDDEN, if AS KNOWN TODAY it is ILL");
        FlueRounds f = onTen();
        check.is("without LOOKS", f.about(0, 6), 0);
        f.look(0, 5, false);
        check.is("ILL on the DAY on which it came", f.about(0, 6), 1);
        check.is("the other one", f.about(1, 6), 0);
        f.look(0, 6, true);
        check.is("WELL a DAY later", f.about(0, 6), 0);
        f.look(0, 5, false);
        check.is("ILL of the earlier DAY, told later", f.about(0, 6), 0);
        f.look(0, 6, false);
        check.is("ILL of the same DAY, told later", f.about(0, 6), 1);
        Check.goTo(f, 500);
        check.is("ILL up to the last DAY", f.about(0, 6), 1);
    }

    // ---- promise 15

    private static void knownOnDays() {
        check.says("known: BAD: the DAY is not 0 .. TODAY");
        FlueRounds f = withFlue();
        f.look(0, 0, true);
        check.is("known(0, 0) on DAY 0", f.known(0, 0), 1);
        check.is("known(0, 1) on DAY 0", f.known(0, 1), BAD);
        f.days(1);
        check.is("known(0, 1) on DAY 1", f.known(0, 1), 1);
        Check.goTo(f, 500);
        check.is("known on the last DAY", f.known(0, 500), 1);
        check.is("known behind it", f.known(0, 501), BAD);
        for (int day : NO_DAYS) {
            behind(Pasts::cameOnFive).refuse("known(0, " + day + ")", BAD, g -> g.known(0, day));
            behind(Pasts::fullLooks).refuse("known(2, " + day + ")", BAD, g -> g.known(2, day));
        }
    }

    private static void knownOfNoLook() {
        check.says("known: NONE");
        FlueRounds f = onTen();
        for (int day : new int[] {0, 4, 5, 10}) {
            check.is("known(0, " + day + ")", f.known(0, day), NONE);
        }
        check.is("known ahead of its coming", f.known(1, 9), NONE);
        f.look(0, 10, true);
        check.is("known of the other one", f.known(1, 10), NONE);
        check.is("known a DAY ahead", f.known(0, 9), NONE);
    }

    private static void knownByTelling() {
        check.says("AS KNOWN on a DAY: of LOOKS told by then");
        FlueRounds f = onTen();
        f.look(0, 5, false);
        check.is("on the DAY of the LOOK", f.known(0, 5), NONE);
        check.is("a DAY ahead of its telling", f.known(0, 9), NONE);
        check.is("on the DAY of its telling", f.known(0, 10), 0);
        f.days(1);
        f.look(0, 6, true);
        check.is("a DAY ahead of the next telling", f.known(0, 10), 0);
        check.is("on the DAY of the next telling", f.known(0, 11), 1);
    }

    private static void knownByDays() {
        check.says("of DAYS up to that one, that of the latest DAY");
        FlueRounds f = onTen();
        f.look(0, 10, true);
        f.look(0, 9, false);
        check.is("the LOOK of TODAY", f.known(0, 10), 1);
        f.days(1);
        f.look(0, 10, false);
        f.look(0, 11, true);
        f.look(0, 5, false);
        check.is("as it was on 10", f.known(0, 10), 1);
        check.is("the latest DAY, not the latest telling", f.known(0, 11), 1);
    }

    private static void knownOfLikeDays() {
        check.says("of like ones that told later");
        FlueRounds f = onTen();
        for (int i = 0; i < 4; i++) {
            boolean well = i % 2 == 0;
            f.look(0, 7, well);
            check.is("told on one DAY", f.known(0, 10), well ? 1 : 0);
        }
        f.days(1);
        f.look(0, 7, true);
        check.is("told on the next DAY", f.known(0, 11), 1);
        check.is("on the DAY ahead", f.known(0, 10), 0);
    }

    // ---- promise 16

    private static void fireOnDays() {
        check.says("fire: BAD: the DAY is not 0 .. TODAY");
        check.is("fire on the first DAY", withFlue().fire(0, 0), 0);
        FlueRounds f = withFlue();
        check.is("fire on DAY 1, which is to come", f.fire(0, 1), BAD);
        f.days(10);
        check.is("fire on 0", f.fire(0, 0), 0);
        check.is("fire on TODAY", f.fire(0, 10), 1);
        Check.goTo(f, 500);
        check.is("fire on the last DAY", f.fire(0, 500), 2);
        check.is("fire behind the last DAY", f.fire(0, 501), BAD);
        for (int day : NO_DAYS) {
            behind(Pasts::cameOnFive).refuse("fire(0, " + day + ")", BAD, g -> g.fire(0, day));
        }
    }

    private static void fireAheadOfItsComing() {
        check.says("fire: STATE: the FLUE came later");
        for (int day : new int[] {0, 1, 4}) {
            behind(Pasts::cameOnFive).refuse("fire(0, " + day + ")", STATE, f -> f.fire(0, day));
        }
        behind(Pasts::cameOnFive).refuse("fire(1, 9)", STATE, f -> f.fire(1, 9));
        FlueRounds f = onTen();
        check.is("fire on the DAY on which it came", f.fire(0, 5), 0);
        check.is("fire on TODAY, on which it came", f.fire(1, 10), 1);
    }

    private static void firesAreFull() {
        check.says("A FIRE (10 at most): its number; FULL");
        FlueRounds f = onTen();
        for (int i = 0; i < 10; i++) {
            check.is("fire", f.fire(i % 2, 10), i);
            check.is("FIRES", f.count(5), i + 1);
        }
        check.is("fire 10", f.fire(0, 10), FULL);
        behind(Pasts::fullFires)
            .refuse("fire(0, 5)", FULL, g -> g.fire(0, 5))
            .refuse("fire(0, 10)", FULL, g -> g.fire(0, 10))
            .refuse("fire(1, 10)", FULL, g -> g.fire(1, 10));
        f.days(50);
        check.is("a later DAY makes no room", f.fire(0, 60), FULL);
    }

    private static void fireRefusalsInTheirOrder() {
        check.says("fire: BAD, then STATE, then FULL");
        behind(Pasts::cameOnFive).refuse("BAD ahead of STATE", BAD, f -> f.fire(0, -1));
        behind(Pasts::cameOnFive).refuse("no such FLUE, and no such DAY", BAD, f -> f.fire(2, 11));
        behind(Pasts::fullFires)
            .refuse("BAD ahead of STATE and FULL", BAD, f -> f.fire(0, -1))
            .refuse("a DAY to come, and FULL", BAD, f -> f.fire(0, 11))
            .refuse("no such FLUE, and FULL", BAD, f -> f.fire(2, 10))
            .refuse("STATE ahead of FULL", STATE, f -> f.fire(0, 4))
            .refuse("STATE ahead of FULL, of the other one", STATE, f -> f.fire(1, 9));
    }

    // ---- promise 17

    private static void backIs(FlueRounds f, int fire, int... want) {
        for (int what = 0; what < want.length; what++) {
            check.is("back(" + fire + ", " + what + ")", f.back(fire, what), want[what]);
        }
    }

    private static void backNumbers() {
        check.says("back: what 0 .. 5");
        FlueRounds f = withFlue();
        f.fire(0, 0);
        backIs(f, 0, 0, 0, 0, NONE, 0, NONE);
        for (int what : new int[] {-1, 6, Integer.MIN_VALUE, Integer.MAX_VALUE}) {
            behind(Pasts::busy).refuse("back(0, " + what + ")", BAD, g -> g.back(0, what));
            behind(Pasts::busy).refuse("back(2, " + what + ")", BAD, g -> g.back(2, what));
        }
    }

    private static void backOfNoSuchFire() {
        check.says("back: BAD: there is no such FIRE");
        for (int what = 0; what <= 5; what++) {
            int asked = what;
            behind(Pasts::none).refuse("back(0, " + what + ") of none", BAD, f -> f.back(0, asked));
            for (int fire : new int[] {-1, 2, 9, 10, Integer.MIN_VALUE, Integer.MAX_VALUE}) {
                behind(Pasts::busy).refuse("back(" + fire + ", " + what + ")", BAD, f -> f.back(fire, asked));
            }
            behind(Pasts::fullFires).refuse("back(10, " + what + ") of ten", BAD, f -> f.back(10, asked));
            behind(Pasts::fullFires).refuse("back(-1, " + what + ") of ten", BAD, f -> f.back(-1, asked));
        }
        FlueRounds f = new FlueRounds();
        Pasts.fullFires(f);
        check.is("the last FIRE's FLUE", f.back(9, 0), 0);
        check.is("the last FIRE's DAY", f.back(9, 1), 8);
        check.is("the last FIRE's sweep", f.back(9, 2), 5);
    }

    private static void ledBackToASweep() {
        check.says("It is led back: to the latest sweep up to that DAY");
        FlueRounds f = onTen();
        f.sweep(0);
        f.sweep(1);
        f.days(10);
        f.ill(0, true);
        f.sweep(0);
        f.days(1);
        f.fire(0, 9);
        f.fire(0, 10);
        f.fire(0, 11);
        f.fire(0, 19);
        f.fire(0, 20);
        f.fire(0, 21);
        f.fire(1, 20);
        backIs(f, 0, 0, 9, 5, NONE);
        backIs(f, 1, 0, 10, 10, 0);
        backIs(f, 2, 0, 11, 10, 0);
        backIs(f, 3, 0, 19, 10, 0);
        backIs(f, 4, 0, 20, 20, 1);
        backIs(f, 5, 0, 21, 20, 1);
        backIs(f, 6, 1, 20, 10, 1);
        f.sweep(0);
        check.is("a sweep of the FIRE's own DAY", f.back(5, 2), 21);
        check.is("a sweep of the DAY behind", f.back(4, 2), 20);
        // Of two on one DAY the later one is the latest.
        f.ill(0, false);
        f.sweep(0);
        check.is("the HAND of the later one", f.back(5, 3), 0);
    }

    private static void ledBackToItsComing() {
        check.says("also that it came; the HAND that did it (NONE: it came then)");
        FlueRounds f = onTen();
        f.fire(0, 5);
        f.fire(1, 10);
        backIs(f, 0, 0, 5, 5, NONE, 0, NONE);
        backIs(f, 1, 1, 10, 10, NONE, 0, NONE);
        f.sweep(1);
        backIs(f, 1, 1, 10, 10, 1, 0, NONE);
        backIs(f, 0, 0, 5, 5, NONE, 0, NONE);
    }

    private static void ledBackToBeyond() {
        check.says("whether the FLUE was BEYOND on that DAY");
        FlueRounds f = new FlueRounds();
        Check.tell(f, "g5");
        Check.plain(f, 0, 0, 0, 0);
        f.days(8);
        f.fire(0, 0);
        f.fire(0, 5);
        f.fire(0, 6);
        f.fire(0, 8);
        int[] want = {0, 0, 1, 1};
        for (int fire = 0; fire < 4; fire++) {
            check.is("back(" + fire + ", 4)", f.back(fire, 4), want[fire]);
        }
        f.sweep(0);
        check.is("a sweep of its own DAY", f.back(3, 4), 0);
        check.is("a sweep of a later DAY", f.back(2, 4), 1);
        f.days(6);
        f.fire(0, 13);
        f.fire(0, 14);
        check.is("on the next DUE", f.back(4, 4), 0);
        check.is("behind the next DUE", f.back(5, 4), 1);
        // BEYOND is told of one that is FORBIDDEN too.
        f.look(0, 14, false);
        check.is("FORBIDDEN", f.about(0, 6), 1);
        check.is("behind the next DUE still", f.back(5, 4), 1);
        check.is("beyond() leaves it out", f.beyond(), 0);
    }

    private static void ledBackByLawsOfThen() {
        check.says("by LAWS told by that DAY");
        FlueRounds f = withFlue();
        f.days(20);
        f.fire(0, 20);
        Check.tell(f, "g5");
        check.is("by a LAW of its own DAY", f.back(0, 4), 0);
        f.days(1);
        f.fire(0, 20);
        f.fire(0, 21);
        check.is("a DAY ahead", f.back(1, 4), 0);
        check.is("by the LAW of the DAY ahead", f.back(2, 4), 1);
        Check.tell(f, "g200");
        check.is("a later LAW changes nothing", f.back(2, 4), 1);
        f.days(30);
        Check.tell(f, "g1");
        check.is("a much later LAW changes nothing", f.back(0, 4), 0);
    }

    private static void ledBackToWhatWasKnown() {
        check.says("what was AS KNOWN on it (by what was told by that DAY)");
        FlueRounds f = onTen();
        f.fire(0, 9);
        f.fire(0, 10);
        f.look(0, 9, false);
        check.is("told a DAY behind the FIRE", f.back(0, 5), NONE);
        check.is("told on the FIRE's DAY", f.back(1, 5), 0);
        f.look(0, 10, true);
        check.is("of the FIRE's own DAY", f.back(1, 5), 1);
        f.days(1);
        f.look(0, 10, false);
        f.look(0, 11, false);
        check.is("told a DAY later", f.back(1, 5), 1);
        f.fire(0, 11);
        f.fire(1, 11);
        check.is("known on the next DAY", f.back(2, 5), 0);
        check.is("known of the other one", f.back(3, 5), NONE);
    }
}
