/** Promises 7 to 17: flue, draught, about, due, beyond, sweep, refuse, look, known, fire, back. */
public final class FluesTest {
    private static final int BAD = FlueRounds.BAD, STATE = FlueRounds.STATE, FULL = FlueRounds.FULL,
        NONE = FlueRounds.NONE;
    private static final Check check = new Check();

    public static void main(String[] args) {
        flueRanges();
        fluesAreFull();
        draughts();
        tracesOfDraughts();
        abouts();
        wrongFlues();
        dueDays();
        dueFarOn();
        beyondOnes();
        sweeping();
        sweepRefusals();
        sweepsAreFull();
        refusing();
        looking();
        lookRefusals();
        knowing();
        firing();
        leadingBack();
        leadingBackLaws();
        check.end("FluesTest");
    }

    private static int make(FlueRounds f, int[] a) {
        return f.flue(a[0], a[1], a[2], a[3], a[4], a[5], a[6], a[7]);
    }

    private static void flueRanges() {
        int[] least = {0, 0, 1, 10, 0, 0, 0, 0};
        int[] most = {2, 2, 30, 40, 4, 20, 20, 3};
        FlueRounds f = new FlueRounds();
        for (int i = 0; i < 8; i++) {
            int[] values = {least[i] - 1, most[i] + 1, Integer.MIN_VALUE, Integer.MAX_VALUE};
            for (int v : values) {
                int[] a = least.clone();
                a[i] = v;
                check.is("flue with " + v + " at " + i, make(f, a), BAD);
            }
        }
        check.is("count(0) behind BAD", f.count(0), 0);
        check.is("flue of least numbers", make(f, least), 0);
        check.is("flue of greatest numbers", make(f, most), 1);
        check.is("count(0)", f.count(0), 2);
    }

    private static void fluesAreFull() {
        FlueRounds f = new FlueRounds();
        for (int i = 0; i < 12; i++) {
            check.is("flue " + i, Check.plain(f, 0, i, i, 0), i);
        }
        check.is("a thirteenth flue", Check.plain(f, 0, 0, 0, 0), FULL);
        check.is("a wrong thirteenth flue", Check.plain(f, 3, 0, 0, 0), BAD);
        check.is("count(0)", f.count(0), 12);
        check.is("about(11, 2)", f.about(11, 2), 5);
        check.is("about(12, 2)", f.about(12, 2), BAD);
    }

    private static void draughts() {
        FlueRounds f = new FlueRounds();
        int[][] bodies = {{0, 0, 7, 40, 4}, {0, 1, 7, 40, 4}, {0, 2, 7, 40, 4}, {1, 1, 7, 10, 4}, {1, 0, 7, 40, 1},
            {1, 0, 7, 40, 0}, {2, 2, 7, 13, 3}, {2, 2, 7, 13, 0}, {2, 0, 1, 40, 4}, {0, 2, 30, 10, 0},
            {2, 0, 30, 10, 4}, {0, 1, 29, 10, 1}};
        int[] want = {1, 5, 7, 13, 0, 1, 7, 10, 0, 120, 11, 87};
        for (int i = 0; i < bodies.length; i++) {
            int[] b = bodies[i];
            f.flue(b[0], b[1], b[2], b[3], b[4], 0, 0, 0);
            check.is("draught(" + i + ")", f.draught(i), want[i]);
        }
        check.is("draught(12)", f.draught(12), BAD);
        check.is("draught(-1)", f.draught(-1), BAD);
    }

    private static void tracesOfDraughts() {
        FlueRounds f = new FlueRounds();
        for (int kind = 0; kind < 3; kind++) {
            f.flue(kind, 0, 1, 10, 0, 0, 0, 0);
        }
        check.is("trace() behind flues", f.trace(), 0);
        f.draught(2);
        check.is("trace() behind SHARED", f.trace(), 111);
        f.draught(1);
        check.is("trace() behind BENT", f.trace(), 122);
        f.draught(0);
        check.is("trace() behind STRAIGHT", f.trace(), 123);
        f.draught(3);
        f.sweep(2);
        f.about(2, 0);
        f.round(0, 6, 800);
        check.is("trace() behind other calls", f.trace(), 123);
        for (int i = 0; i < 20; i++) {
            f.draught(2);
        }
        check.is("trace() behind twenty more", f.trace(), 123 + 20 * 111);
    }

    private static void abouts() {
        FlueRounds f = new FlueRounds();
        f.days(7);
        f.flue(2, 1, 19, 33, 4, 12, 13, 3);
        int[] want = {2, 1, 19, 3, 7, 0, 0, 3};
        for (int what = 0; what < 8; what++) {
            check.is("about(0, " + what + ")", f.about(0, what), want[what]);
        }
        f.days(3);
        f.refuse(0);
        check.is("REFUSALS", f.about(0, 5), 1);
        f.sweep(0);
        check.is("the latest sweep", f.about(0, 4), 10);
        check.is("REFUSALS ended", f.about(0, 5), 0);
        f.ill(3, true);
        check.is("HAND stays", f.about(0, 3), 3);
        check.is("THE DOER changes", f.about(0, 7), 0);
        int[] wrong = {-1, 8, Integer.MIN_VALUE, Integer.MAX_VALUE};
        for (int what : wrong) {
            check.is("about(0, " + what + ")", f.about(0, what), BAD);
        }
    }

    private static void wrongFlues() {
        FlueRounds f = new FlueRounds();
        Check.plain(f, 0, 0, 0, 0);
        int[] wrong = {-1, 1, 12, Integer.MIN_VALUE, Integer.MAX_VALUE};
        for (int flue : wrong) {
            check.is("draught(" + flue + ")", f.draught(flue), BAD);
            check.is("about(" + flue + ", 0)", f.about(flue, 0), BAD);
            check.is("due(" + flue + ")", f.due(flue), BAD);
            check.is("sweep(" + flue + ")", f.sweep(flue), BAD);
            check.is("refuse(" + flue + ")", f.refuse(flue), BAD);
            check.is("look(" + flue + ", 0, true)", f.look(flue, 0, true), BAD);
            check.is("known(" + flue + ", 0)", f.known(flue, 0), BAD);
            check.is("fire(" + flue + ", 0)", f.fire(flue, 0), BAD);
        }
        for (int what = 4; what <= 6; what++) {
            check.is("count(" + what + ") behind BAD", f.count(what), 0);
        }
        check.is("trace() behind BAD", f.trace(), 0);
    }

    private static void dueDays() {
        FlueRounds f = new FlueRounds();
        Check.plain(f, 0, 0, 0, 0);
        check.is("due without LAWS", f.due(0), 100);
        f.days(5);
        Check.plain(f, 0, 0, 0, 0);
        check.is("due of one that came on 5", f.due(1), 105);
        // In force from 5 on; day 1 .. 4 stay without a LAW.
        Check.tell(f, "g1");
        check.is("due(0) by g1", f.due(0), 5);
        check.is("due(1) by g1", f.due(1), 6);
        Check.tell(f, "g200");
        check.is("due(0) by g200", f.due(0), 200);
        check.is("due(1) by g200", f.due(1), 205);
        // The SPAN falls on 50: those that are behind it then are due at once.
        Check.tell(f, "g90@50g20@60g70");
        check.is("due(0) by falling SPANS", f.due(0), 50);
        f.days(34);
        f.sweep(0);
        check.is("due behind the sweep on 39", f.due(0), 59);
        f.days(1);
        f.sweep(0);
        check.is("due behind the sweep on 40", f.due(0), 110);
    }

    private static void dueFarOn() {
        FlueRounds f = new FlueRounds();
        Check.tell(f, "w200");
        Check.goTo(f, 500);
        Check.plain(f, 1, 0, 0, 0);
        check.is("due of the latest DAY", f.due(0), 700);
        check.is("round ahead of it", f.round(0, 6, 699), 0);
        check.is("round by it", f.round(0, 6, 700), 1);
    }

    private static void beyondOnes() {
        FlueRounds f = new FlueRounds();
        Check.tell(f, "g3w4");
        Check.plain(f, 0, 0, 0, 0);
        Check.plain(f, 1, 0, 0, 0);
        Check.plain(f, 0, 0, 0, 1);
        f.days(3);
        check.is("beyond() on the DUE day", f.beyond(), 0);
        f.days(1);
        check.is("beyond() a day later", f.beyond(), 2);
        f.days(1);
        check.is("beyond() of all", f.beyond(), 3);
        f.refuse(0);
        f.refuse(0);
        check.is("beyond() with two REFUSALS", f.beyond(), 3);
        f.refuse(0);
        check.is("beyond() with three", f.beyond(), 2);
        f.look(1, 5, false);
        check.is("beyond() with one ILL", f.beyond(), 1);
        f.sweep(2);
        check.is("beyond() behind a sweep", f.beyond(), 0);
        f.look(0, 0, true);
        check.is("beyond() with REFUSALS ended", f.beyond(), 1);
    }

    private static void sweeping() {
        FlueRounds f = new FlueRounds();
        f.flue(0, 0, 17, 10, 0, 0, 0, 2);
        check.is("sweep at rate 1", f.sweep(0), 17);
        f.rate(5);
        check.is("sweep at rate 5", f.sweep(0), 85);
        check.is("fees of both", f.fees(2, 0), 102);
        check.is("sweeps of both", f.fees(2, 1), 2);
        check.is("count(6)", f.count(6), 2);
        f.ill(2, true);
        check.is("sweep by another", f.sweep(0), 85);
        check.is("fees of the other", f.fees(0, 0), 85);
        check.is("fees of the one", f.fees(2, 0), 102);
    }

    private static void sweepRefusals() {
        FlueRounds f = new FlueRounds();
        Check.plain(f, 0, 0, 0, 0);
        for (int hand = 0; hand < 4; hand++) {
            f.ill(hand, true);
        }
        check.is("sweep with all ILL", f.sweep(0), STATE);
        f.ill(3, false);
        f.look(0, 0, false);
        check.is("sweep of one that is ILL", f.sweep(0), STATE);
        f.look(0, 0, true);
        for (int i = 0; i < 3; i++) {
            f.refuse(0);
        }
        check.is("sweep behind three REFUSALS", f.sweep(0), STATE);
        check.is("count(6) behind STATE", f.count(6), 0);
        check.is("REFUSALS behind STATE", f.about(0, 5), 3);
    }

    private static void sweepsAreFull() {
        FlueRounds f = new FlueRounds();
        Check.plain(f, 0, 0, 0, 0);
        Check.plain(f, 0, 0, 0, 1);
        for (int i = 0; i < 100; i++) {
            check.is("sweep " + i, f.sweep(i % 2), 5);
        }
        f.days(1);
        f.refuse(0);
        check.is("sweep 100", f.sweep(0), FULL);
        check.is("REFUSALS behind FULL", f.about(0, 5), 1);
        check.is("its DAY behind FULL", f.about(0, 4), 0);
        check.is("fees behind FULL", f.fees(0, 0), 250);
        check.is("sweeps behind FULL", f.fees(1, 1), 50);
        check.is("count(6)", f.count(6), 100);
        check.is("BAD ahead of FULL", f.sweep(2), BAD);
        f.look(1, 1, false);
        check.is("STATE ahead of FULL", f.sweep(1), STATE);
    }

    private static void refusing() {
        FlueRounds f = new FlueRounds();
        Check.plain(f, 0, 0, 0, 0);
        Check.plain(f, 0, 0, 0, 0);
        check.is("refuse(0)", f.refuse(0), 1);
        check.is("refuse(0) again", f.refuse(0), 2);
        check.is("REFUSALS of the other one", f.about(1, 5), 0);
        f.sweep(0);
        check.is("refuse(0) behind a sweep", f.refuse(0), 1);
        f.refuse(0);
        f.look(1, 0, true);
        check.is("a LOOK at another ends none", f.about(0, 5), 2);
        f.look(0, 0, false);
        check.is("a LOOK that is ILL ends none", f.about(0, 5), 2);
        check.is("refuse(0) while ILL", f.refuse(0), STATE);
        f.days(9);
        f.look(0, 3, true);
        check.is("a LOOK that is WELL ends them", f.about(0, 5), 0);
        for (int i = 1; i <= 3; i++) {
            check.is("refuse(0)", f.refuse(0), i);
        }
        check.is("refuse(0) while FORBIDDEN", f.refuse(0), STATE);
        check.is("REFUSALS behind STATE", f.about(0, 5), 3);
    }

    private static void looking() {
        FlueRounds f = new FlueRounds();
        Check.plain(f, 0, 0, 0, 0);
        f.days(20);
        check.is("look ILL at 10", f.look(0, 10, false), 0);
        check.is("FORBIDDEN", f.about(0, 6), 1);
        for (int i = 0; i < 2; i++) {
            check.is("refuse", f.refuse(0), STATE);
        }
        // Of an earlier DAY: it ends REFUSALS, but the FLUE stays ILL.
        check.is("look WELL at 9", f.look(0, 9, true), 1);
        check.is("FORBIDDEN still", f.about(0, 6), 1);
        check.is("look WELL at 10", f.look(0, 10, true), 2);
        check.is("not FORBIDDEN", f.about(0, 6), 0);
        check.is("look ILL at 10 again", f.look(0, 10, false), 3);
        check.is("FORBIDDEN again", f.about(0, 6), 1);
        check.is("look WELL at 20", f.look(0, 20, true), 4);
        check.is("not FORBIDDEN again", f.about(0, 6), 0);
        f.refuse(0);
        check.is("look WELL at 0", f.look(0, 0, true), 5);
        check.is("REFUSALS ended by an early DAY", f.about(0, 5), 0);
        check.is("count(4)", f.count(4), 6);
    }

    private static void lookRefusals() {
        FlueRounds f = new FlueRounds();
        f.days(5);
        Check.plain(f, 0, 0, 0, 0);
        f.days(5);
        f.refuse(0);
        check.is("look on -1", f.look(0, -1, true), BAD);
        check.is("look on 11", f.look(0, 11, true), BAD);
        check.is("look on 4", f.look(0, 4, true), STATE);
        check.is("look on 0", f.look(0, 0, true), STATE);
        check.is("REFUSALS behind them", f.about(0, 5), 1);
        check.is("count(4) behind them", f.count(4), 0);
        check.is("look on 5", f.look(0, 5, false), 0);
        check.is("look on 10", f.look(0, 10, false), 1);
        for (int i = 2; i < 30; i++) {
            check.is("look " + i, f.look(0, 7, false), i);
        }
        check.is("look 30", f.look(0, 10, true), FULL);
        check.is("REFUSALS behind FULL", f.about(0, 5), 1);
        check.is("FORBIDDEN behind FULL", f.about(0, 6), 1);
        check.is("STATE ahead of FULL", f.look(0, 4, true), STATE);
        check.is("BAD ahead of FULL", f.look(0, 11, true), BAD);
        check.is("count(4)", f.count(4), 30);
    }

    private static void knowing() {
        FlueRounds f = new FlueRounds();
        Check.plain(f, 0, 0, 0, 0);
        Check.plain(f, 0, 0, 0, 0);
        check.is("known of no LOOKS", f.known(0, 0), NONE);
        f.days(10);
        f.look(0, 4, false);
        f.days(10);
        f.look(0, 3, true);
        f.look(0, 8, true);
        f.days(10);
        f.look(0, 8, false);
        int[] days = {0, 4, 9, 10, 19, 20, 29, 30};
        int[] want = {NONE, NONE, NONE, 0, 0, 1, 1, 0};
        for (int i = 0; i < days.length; i++) {
            check.is("known(0, " + days[i] + ")", f.known(0, days[i]), want[i]);
            check.is("known(1, " + days[i] + ")", f.known(1, days[i]), NONE);
        }
        check.is("known on -1", f.known(0, -1), BAD);
        check.is("known on 31", f.known(0, 31), BAD);
        Check.plain(f, 0, 0, 0, 0);
        check.is("known ahead of its coming", f.known(2, 29), NONE);
    }

    private static void firing() {
        FlueRounds early = new FlueRounds();
        Check.plain(early, 0, 0, 0, 0);
        check.is("look on 0", early.look(0, 0, true), 0);
        check.is("known on 0", early.known(0, 0), 1);
        check.is("fire on 0", early.fire(0, 0), 0);
        check.is("back(0, 1)", early.back(0, 1), 0);

        FlueRounds f = new FlueRounds();
        f.days(5);
        Check.plain(f, 0, 0, 0, 0);
        f.days(5);
        check.is("fire on -1", f.fire(0, -1), BAD);
        check.is("fire on 11", f.fire(0, 11), BAD);
        check.is("fire on 4", f.fire(0, 4), STATE);
        check.is("count(5)", f.count(5), 0);
        for (int i = 0; i < 10; i++) {
            check.is("fire " + i, f.fire(0, 5 + i % 6), i);
        }
        check.is("fire 10", f.fire(0, 5), FULL);
        check.is("STATE ahead of FULL", f.fire(0, 4), STATE);
        check.is("BAD ahead of FULL", f.fire(1, 4), BAD);
        check.is("count(5) of all", f.count(5), 10);
        check.is("back(9, 1)", f.back(9, 1), 8);
        check.is("back(10, 1)", f.back(10, 1), BAD);
    }

    private static void backIs(FlueRounds f, int fire, int... want) {
        for (int what = 0; what < want.length; what++) {
            check.is("back(" + fire + ", " + what + ")", f.back(fire, what), want[what]);
        }
    }

    private static void leadingBack() {
        FlueRounds f = new FlueRounds();
        Check.tell(f, "g10");
        Check.plain(f, 0, 0, 0, 2);
        Check.plain(f, 0, 0, 0, 3);
        f.days(12);
        f.look(1, 11, false);
        f.sweep(0);
        f.ill(2, true);
        f.days(10);
        f.look(0, 12, true);
        f.sweep(0);
        f.days(20);
        f.fire(0, 11);
        f.fire(0, 12);
        f.fire(0, 21);
        f.fire(0, 22);
        f.fire(0, 32);
        f.fire(0, 33);
        f.fire(1, 11);
        f.fire(1, 12);
        backIs(f, 0, 0, 11, 0, NONE, 1, NONE);
        backIs(f, 1, 0, 12, 12, 2, 0, NONE);
        backIs(f, 2, 0, 21, 12, 2, 0, NONE);
        backIs(f, 3, 0, 22, 22, 3, 0, 1);
        backIs(f, 4, 0, 32, 22, 3, 0, 1);
        backIs(f, 5, 0, 33, 22, 3, 1, 1);
        backIs(f, 6, 1, 11, 0, NONE, 1, NONE);
        backIs(f, 7, 1, 12, 0, NONE, 1, 0);
        int[] wrong = {-1, 6, Integer.MIN_VALUE, Integer.MAX_VALUE};
        for (int v : wrong) {
            check.is("back(0, " + v + ")", f.back(0, v), BAD);
            check.is("back(" + (v == 6 ? 8 : v) + ", 0)", f.back(v == 6 ? 8 : v, 0), BAD);
        }
        // A LOOK that is told now changes nothing of what was known then.
        f.look(0, 12, false);
        backIs(f, 5, 0, 33, 22, 3, 1, 1);
        // What comes on the FIRE's own DAY counts, even behind the telling of it.
        f.fire(0, 42);
        backIs(f, 8, 0, 42, 22, 3, 1, 0);
        f.look(0, 40, true);
        check.is("known on the own DAY", f.back(8, 5), 1);
        f.ill(2, false);
        f.sweep(0);
        backIs(f, 8, 0, 42, 42, 2, 0, 1);
    }

    private static void leadingBackLaws() {
        FlueRounds f = new FlueRounds();
        Check.plain(f, 0, 0, 0, 0);
        f.days(30);
        f.fire(0, 30);
        f.fire(0, 29);
        Check.tell(f, "g5");
        check.is("due by the LAW of 30", f.due(0), 30);
        check.is("BEYOND on 30", f.back(0, 4), 0);
        check.is("BEYOND on 29", f.back(1, 4), 0);
        check.is("beyond() on 30", f.beyond(), 0);
        f.days(1);
        f.fire(0, 31);
        Check.tell(f, "g200");
        check.is("BEYOND on 31", f.back(2, 4), 1);
        check.is("BEYOND on 30 still", f.back(0, 4), 0);
        check.is("beyond() on 31", f.beyond(), 1);
        check.is("due by the LAW of 31", f.due(0), 30);
    }
}
