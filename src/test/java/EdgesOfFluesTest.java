/** Promises 7 to 13 at their edges: a test for each sentence that names one. */
public final class EdgesOfFluesTest {
    private static final int BAD = FlueRounds.BAD, STATE = FlueRounds.STATE, FULL = FlueRounds.FULL,
        NONE = FlueRounds.NONE;
    private static final String[] NUMBERS = {"KIND", "FUEL", "HEIGHT", "WIDTH", "BENDS", "x", "y", "HAND"};
    private static final int[] LEAST = {0, 0, 1, 10, 0, 0, 0, 0};
    private static final int[] MOST = {2, 2, 30, 40, 4, 20, 20, 3};
    private static final Check check = new Check();

    public static void main(String[] args) {
        kindOfAFlue();
        fuelOfAFlue();
        heightOfAFlue();
        widthOfAFlue();
        bendsOfAFlue();
        placeOfAFlue();
        handOfAFlue();
        fluesAreFull();
        flueBadAheadOfFull();
        noSuchFlue();
        straightDraughts();
        bentDraughts();
        sharedDraughts();
        draughtsOfLeastAndMost();
        aboutNumbers();
        aboutTheLatestSweep();
        aboutRefusals();
        aboutTheDoer();
        countsAsSweptWhenItCame();
        dueOneDayOnAtLeast();
        dueAtLeastTheSpan();
        dueIsTheFirstSuchDay();
        dueByALawOfToday();
        dueFarthest();
        beyondIsBehindDue();
        beyondStays();
        beyondOfNoneAndOfAll();
        beyondWithoutForbidden();
        sweepFees();
        sweepOfForbidden();
        sweepByNobody();
        sweepsAreFull();
        sweepRefusalsInTheirOrder();
        sweepEndsRefusals();
        refuseUpToThree();
        refuseOfForbidden();
        check.end("EdgesOfFluesTest");
    }

    private static Twins behind(java.util.function.Consumer<FlueRounds> past) {
        return new Twins(check, past);
    }

    private static int make(FlueRounds f, int[] a) {
        return f.flue(a[0], a[1], a[2], a[3], a[4], a[5], a[6], a[7]);
    }

    private static int[] leastBut(int at, int v) {
        int[] a = LEAST.clone();
        a[at] = v;
        return a;
    }

    private static FlueRounds withFlue(int... a) {
        FlueRounds f = new FlueRounds();
        check.is("flue " + java.util.Arrays.toString(a), make(f, a), 0);
        return f;
    }

    // ---- promise 7

    /** Both ends are taken, alone and with all other ends; what stands beside them is refused. */
    private static void rangeOf(int at) {
        check.says("flue: " + NUMBERS[at] + " " + LEAST[at] + " .. " + MOST[at]);
        for (int v = LEAST[at]; v <= MOST[at]; v++) {
            withFlue(leastBut(at, v));
        }
        withFlue(MOST);
        for (int v : new int[] {LEAST[at] - 1, MOST[at] + 1, Integer.MIN_VALUE, Integer.MAX_VALUE}) {
            int[] low = leastBut(at, v);
            int[] high = MOST.clone();
            high[at] = v;
            behind(Pasts::none).refuse("flue with " + v, BAD, f -> make(f, low));
            behind(Pasts::busy).refuse("flue with " + v + " among least ones", BAD, f -> make(f, low));
            behind(Pasts::busy).refuse("flue with " + v + " among greatest ones", BAD, f -> make(f, high));
        }
    }

    private static void readsBack(int at, int what) {
        rangeOf(at);
        for (int v = LEAST[at]; v <= MOST[at]; v++) {
            check.is("about(0, " + what + ")", withFlue(leastBut(at, v)).about(0, what), v);
        }
    }

    private static void kindOfAFlue() {
        readsBack(0, 0);
    }

    private static void fuelOfAFlue() {
        readsBack(1, 1);
    }

    private static void heightOfAFlue() {
        readsBack(2, 2);
    }

    private static void widthOfAFlue() {
        rangeOf(3);
        check.is("draught with the least WIDTH", withFlue(0, 0, 30, 10, 0, 0, 0, 0).draught(0), 30);
        check.is("draught with the greatest", withFlue(0, 0, 30, 40, 0, 0, 0, 0).draught(0), 7);
    }

    private static void bendsOfAFlue() {
        rangeOf(4);
        for (int bends = 0; bends <= 4; bends++) {
            check.is("draught with BENDS " + bends, withFlue(1, 0, 30, 10, bends, 0, 0, 0).draught(0), 30 - 2 * bends);
        }
    }

    private static void placeOfAFlue() {
        rangeOf(5);
        rangeOf(6);
        for (int[] p : new int[][] {{0, 0}, {20, 0}, {0, 20}, {20, 20}, {1, 19}}) {
            FlueRounds f = withFlue(0, 0, 1, 10, 0, p[0], p[1], 0);
            f.round(0, 1, 800);
            check.is("way to " + p[0] + ", " + p[1] + " and back", f.at(6), 2 * (p[0] + p[1]));
        }
    }

    private static void handOfAFlue() {
        readsBack(7, 3);
    }

    private static void fluesAreFull() {
        check.says("FLUES (12 at most): its number; FULL");
        FlueRounds f = new FlueRounds();
        for (int i = 0; i < 12; i++) {
            check.is("flue", make(f, LEAST), i);
            check.is("FLUES", f.count(0), i + 1);
        }
        check.is("a thirteenth", make(f, LEAST), FULL);
        behind(Pasts::fullFlues).refuse("a thirteenth flue of least numbers", FULL, g -> make(g, LEAST));
        behind(Pasts::fullFlues).refuse("a thirteenth flue of greatest numbers", FULL, g -> make(g, MOST));
        Pasts.lastDay(f);
        check.is("a later DAY makes no room", make(f, LEAST), FULL);
    }

    private static void flueBadAheadOfFull() {
        check.says("flue: BAD ahead of FULL");
        for (int at = 0; at < 8; at++) {
            int[] below = leastBut(at, LEAST[at] - 1);
            int[] above = leastBut(at, MOST[at] + 1);
            behind(Pasts::fullFlues).refuse("flue with too small a " + NUMBERS[at], BAD, f -> make(f, below));
            behind(Pasts::fullFlues).refuse("flue with too great a " + NUMBERS[at], BAD, f -> make(f, above));
        }
    }

    // ---- promises 8 to 13: a FLUE that is not there

    private static void noSuchFlue() {
        check.says("BAD: there is no such FLUE");
        refuseFlues(behind(Pasts::none), -1, 0, 1);
        refuseFlues(behind(Pasts::busy), -1, 4, 11, 12, Integer.MIN_VALUE, Integer.MAX_VALUE);
        refuseFlues(behind(Pasts::fullFlues), -1, 12, Integer.MIN_VALUE, Integer.MAX_VALUE);
        refuseFlues(behind(Pasts::fullLooks), -1, 2);
        refuseFlues(behind(Pasts::fullFires), -1, 2);
        refuseFlues(behind(Pasts::fullSweeps), -1, 2);
        refuseFlues(behind(Pasts::allIll), -1, 0);
        FlueRounds f = new FlueRounds();
        Pasts.fullFlues(f);
        check.is("the last FLUE's HEIGHT", f.about(11, 2), 12);
        check.is("the last FLUE's DUE", f.due(11), 100);
        check.is("the last FLUE's REFUSAL", f.refuse(11), 1);
        check.is("the last FLUE's fee", f.sweep(11), 12);
        check.is("the last FLUE's LOOK", f.look(11, 0, true), 0);
        check.is("the last FLUE as known", f.known(11, 0), 1);
        check.is("the last FLUE's FIRE", f.fire(11, 0), 0);
        check.is("the last FLUE's DRAUGHT", f.draught(11), 10);
    }

    private static void refuseFlues(Twins twins, int... flues) {
        for (int flue : flues) {
            twins.refuse("draught(" + flue + ")", BAD, f -> f.draught(flue));
            twins.refuse("about(" + flue + ", 0)", BAD, f -> f.about(flue, 0));
            twins.refuse("about(" + flue + ", 7)", BAD, f -> f.about(flue, 7));
            twins.refuse("due(" + flue + ")", BAD, f -> f.due(flue));
            twins.refuse("sweep(" + flue + ")", BAD, f -> f.sweep(flue));
            twins.refuse("refuse(" + flue + ")", BAD, f -> f.refuse(flue));
            twins.refuse("look(" + flue + ", 0, true)", BAD, f -> f.look(flue, 0, true));
            twins.refuse("look(" + flue + ", 0, false)", BAD, f -> f.look(flue, 0, false));
            twins.refuse("known(" + flue + ", 0)", BAD, f -> f.known(flue, 0));
            twins.refuse("fire(" + flue + ", 0)", BAD, f -> f.fire(flue, 0));
        }
    }

    // ---- promise 8

    private static void draughtIs(int kind, int fuel, int height, int width, int bends, int want) {
        FlueRounds f = withFlue(kind, fuel, height, width, bends, 0, 0, 0);
        check.is("draught of " + kind + ", " + fuel + ", " + height + ", " + width + ", " + bends, f.draught(0), want);
        check.is("trace() behind it", f.trace(), kind == 0 ? 1 : kind == 1 ? 11 : 111);
    }

    private static void straightDraughts() {
        check.says("STRAIGHT HEIGHT times 10, 30, 40 (by FUEL) by WIDTH, rounded down (1)");
        draughtIs(0, 0, 4, 40, 0, 1);
        draughtIs(0, 0, 3, 40, 0, 0);
        draughtIs(0, 0, 7, 40, 0, 1);
        draughtIs(0, 0, 8, 40, 0, 2);
        draughtIs(0, 1, 4, 40, 0, 3);
        draughtIs(0, 1, 5, 40, 0, 3);
        draughtIs(0, 1, 1, 31, 0, 0);
        draughtIs(0, 1, 1, 30, 0, 1);
        draughtIs(0, 1, 1, 29, 0, 1);
        draughtIs(0, 2, 1, 40, 0, 1);
        draughtIs(0, 2, 1, 21, 0, 1);
        draughtIs(0, 2, 1, 20, 0, 2);
        // Its BENDS do nothing to a STRAIGHT one.
        draughtIs(0, 2, 1, 40, 4, 1);
    }

    private static void bentDraughts() {
        check.says("BENT up, less 2 for each BEND, 0 at least (10)");
        draughtIs(1, 0, 9, 10, 4, 1);
        draughtIs(1, 0, 8, 10, 4, 0);
        draughtIs(1, 0, 7, 10, 4, 0);
        draughtIs(1, 0, 1, 40, 4, 0);
        draughtIs(1, 0, 1, 40, 0, 0);
        draughtIs(1, 0, 1, 10, 0, 1);
        draughtIs(1, 0, 1, 10, 1, 0);
        draughtIs(1, 0, 2, 10, 1, 0);
        draughtIs(1, 0, 3, 10, 1, 1);
    }

    private static void sharedDraughts() {
        check.says("SHARED half of up, rounded down (100)");
        draughtIs(2, 0, 1, 40, 0, 0);
        draughtIs(2, 0, 1, 10, 0, 0);
        draughtIs(2, 0, 2, 10, 0, 1);
        draughtIs(2, 0, 3, 10, 0, 1);
        draughtIs(2, 0, 4, 10, 0, 2);
        // Less than 0 ahead of the halving would be no 0 behind it.
        draughtIs(2, 0, 1, 40, 4, 0);
        draughtIs(2, 0, 9, 10, 4, 0);
        draughtIs(2, 0, 10, 10, 4, 1);
        draughtIs(2, 0, 11, 10, 4, 1);
    }

    private static void draughtsOfLeastAndMost() {
        check.says("ITS DRAUGHT: of the least and of the greatest numbers");
        draughtIs(0, 0, 1, 40, 0, 0);
        draughtIs(0, 2, 30, 10, 0, 120);
        draughtIs(1, 2, 30, 10, 4, 112);
        draughtIs(2, 2, 30, 10, 4, 56);
        draughtIs(0, 1, 30, 10, 0, 90);
        draughtIs(0, 2, 30, 40, 0, 30);
    }

    // ---- promise 9

    private static void aboutNumbers() {
        check.says("about: what 0 .. 7");
        FlueRounds f = new FlueRounds();
        Check.goTo(f, 500);
        make(f, MOST);
        int[] want = {2, 2, 30, 3, 500, 0, 0, 3};
        for (int what = 0; what <= 7; what++) {
            check.is("about(0, " + what + ")", f.about(0, what), want[what]);
        }
        for (int what : new int[] {-1, 8, Integer.MIN_VALUE, Integer.MAX_VALUE}) {
            behind(Pasts::busy).refuse("about(0, " + what + ")", BAD, g -> g.about(0, what));
            behind(Pasts::busy).refuse("about(4, " + what + ")", BAD, g -> g.about(4, what));
        }
    }

    private static void aboutTheLatestSweep() {
        check.says("about: 4 the DAY of its latest sweep");
        FlueRounds f = new FlueRounds();
        f.days(3);
        make(f, LEAST);
        make(f, LEAST);
        check.is("the DAY on which it came", f.about(0, 4), 3);
        f.days(1);
        check.is("a DAY later", f.about(0, 4), 3);
        f.sweep(0);
        check.is("behind a sweep", f.about(0, 4), 4);
        check.is("of the other one", f.about(1, 4), 3);
        f.days(1);
        f.sweep(0);
        check.is("behind two", f.about(0, 4), 5);
    }

    private static void aboutRefusals() {
        check.says("about: 5 REFUSALS, 6 whether it is FORBIDDEN (3 REFUSALS that were not ended)");
        FlueRounds f = withFlue(LEAST);
        for (int i = 0; i <= 3; i++) {
            check.is("REFUSALS", f.about(0, 5), i);
            check.is("FORBIDDEN with " + i, f.about(0, 6), i == 3 ? 1 : 0);
            f.refuse(0);
        }
        check.is("REFUSALS at last", f.about(0, 5), 3);
    }

    private static void aboutTheDoer() {
        check.says("about: 7 THE DOER; NONE, if all are ILL");
        FlueRounds f = withFlue(0, 0, 1, 10, 0, 0, 0, 3);
        check.is("its HAND", f.about(0, 7), 3);
        for (int hand = 3; hand > 0; hand--) {
            f.ill(hand, true);
            check.is("one is not ILL", f.about(0, 7), 0);
        }
        f.ill(0, true);
        check.is("all are ILL", f.about(0, 7), NONE);
        check.is("HAND stays", f.about(0, 3), 3);
        f.ill(3, false);
        check.is("its HAND again", f.about(0, 7), 3);
    }

    // ---- promise 10

    private static void countsAsSweptWhenItCame() {
        check.says("A FLUE counts as SWEPT on the DAY on which it came");
        FlueRounds f = new FlueRounds();
        make(f, LEAST);
        f.days(1);
        make(f, LEAST);
        check.is("due of one that came on 0", f.due(0), 100);
        check.is("due of one that came on 1", f.due(1), 101);
        check.is("it is no sweep that is kept", f.count(6), 0);
        f.sweep(1);
        check.is("swept on the DAY on which it came", f.due(1), 101);
    }

    private static void dueOneDayOnAtLeast() {
        check.says("DUE is the first DAY behind the one on which it was SWEPT latest (d 1 or more)");
        FlueRounds f = new FlueRounds();
        Check.tell(f, "g1w2");
        make(f, LEAST);
        make(f, leastBut(1, 1));
        check.is("due by SPAN 1", f.due(0), 1);
        check.is("due by SPAN 2", f.due(1), 2);
        f.days(1);
        check.is("due TODAY", f.due(0), 1);
        f.sweep(0);
        check.is("due behind a sweep", f.due(0), 2);
        f.sweep(0);
        check.is("due behind two of one DAY", f.due(0), 2);
    }

    private static void dueAtLeastTheSpan() {
        check.says("with d at least SPAN on that DAY");
        FlueRounds f = new FlueRounds();
        make(f, LEAST);
        String[] texts = {"@10g10", "@10g11", "@10g9", "g10@10g11@11g12@12g12", "g200@199g199", "g200@198g199"};
        int[] want = {10, 11, 10, 12, 199, 199};
        for (int i = 0; i < texts.length; i++) {
            Check.tell(f, texts[i]);
            check.is("due by '" + texts[i] + "'", f.due(0), want[i]);
        }
    }

    private static void dueIsTheFirstSuchDay() {
        check.says("DUE is the first such DAY, though SPAN rises behind it");
        FlueRounds f = new FlueRounds();
        make(f, LEAST);
        Check.tell(f, "g200@50g20@51g200");
        check.is("due on the one DAY", f.due(0), 50);
        f.days(31);
        f.sweep(0);
        check.is("swept on 31: that DAY is too early", f.due(0), 231);
        Check.tell(f, "g200@50g19@51g200");
        check.is("swept on 31: that DAY will do", f.due(0), 50);
    }

    private static void dueByALawOfToday() {
        check.says("a LAW is in force from the DAY on which it was told: not for DAYS that are gone");
        FlueRounds f = new FlueRounds();
        make(f, LEAST);
        f.days(10);
        String[] texts = {"g1", "g9", "g10", "g11", "g12"};
        int[] want = {10, 10, 10, 11, 12};
        for (int i = 0; i < texts.length; i++) {
            Check.tell(f, texts[i]);
            check.is("due by '" + texts[i] + "' of 10", f.due(0), want[i]);
        }
        FlueRounds gone = new FlueRounds();
        Check.tell(gone, "g9");
        make(gone, LEAST);
        gone.days(10);
        Check.tell(gone, "g200");
        check.is("a DAY that is gone stays DUE", gone.due(0), 9);
    }

    private static void dueFarthest() {
        check.says("due: DUE (800 at most)");
        FlueRounds f = new FlueRounds();
        Check.goTo(f, 500);
        make(f, LEAST);
        check.is("without a LAW", f.due(0), 600);
        Check.tell(f, "g200");
        check.is("by the greatest SPAN on the last DAY", f.due(0), 700);
        Check.tell(f, "g1");
        check.is("by the least SPAN on the last DAY", f.due(0), 501);
        Check.tell(f, "@500g150");
        check.is("by the last @", f.due(0), 650);
    }

    // ---- promise 11

    private static void beyondIsBehindDue() {
        check.says("It is BEYOND on a DAY, if that is behind the first such one");
        FlueRounds f = new FlueRounds();
        Check.tell(f, "g5");
        make(f, LEAST);
        for (int day = 0; day <= 7; day++) {
            check.is("beyond() on " + day, f.beyond(), day > 5 ? 1 : 0);
            f.days(1);
        }
        f.sweep(0);
        check.is("beyond() behind a sweep", f.beyond(), 0);
        f.days(5);
        check.is("beyond() on the next DUE", f.beyond(), 0);
        f.days(1);
        check.is("beyond() behind the next DUE", f.beyond(), 1);
    }

    private static void beyondStays() {
        check.says("BEYOND by the first such DAY, though SPAN rises behind it");
        FlueRounds f = new FlueRounds();
        Check.tell(f, "g200@5g5@6g200");
        make(f, LEAST);
        f.days(5);
        check.is("beyond() on 5", f.beyond(), 0);
        f.days(1);
        check.is("beyond() on 6", f.beyond(), 1);
        Check.tell(f, "g200");
        f.days(10);
        check.is("beyond() by a later LAW", f.beyond(), 1);
    }

    private static void beyondOfNoneAndOfAll() {
        check.says("How many FLUES are BEYOND TODAY");
        FlueRounds f = new FlueRounds();
        check.is("of no FLUES", f.beyond(), 0);
        Check.tell(f, "g1w1c1");
        Pasts.fullFlues(f);
        check.is("of twelve on DAY 0", f.beyond(), 0);
        f.days(1);
        check.is("of twelve on DUE", f.beyond(), 0);
        f.days(1);
        check.is("of twelve behind it", f.beyond(), 12);
        f.sweep(11);
        check.is("but the last", f.beyond(), 11);
        f.sweep(0);
        check.is("but the first and the last", f.beyond(), 10);
    }

    private static void beyondWithoutForbidden() {
        check.says("beyond: not FORBIDDEN");
        FlueRounds f = new FlueRounds();
        Check.tell(f, "g1");
        make(f, LEAST);
        make(f, LEAST);
        f.days(2);
        f.refuse(0);
        f.refuse(0);
        check.is("with two REFUSALS", f.beyond(), 2);
        f.refuse(0);
        check.is("with three", f.beyond(), 1);
        f.look(1, 0, false);
        check.is("with one that is ILL", f.beyond(), 0);
        f.look(0, 0, true);
        check.is("with REFUSALS ended", f.beyond(), 1);
        f.look(1, 1, true);
        check.is("with none that is ILL", f.beyond(), 2);
    }

    // ---- promise 12

    private static void sweepFees() {
        check.says("a sweep costs HEIGHT times THE RATE (1 .. 9; 1 at first)");
        FlueRounds f = new FlueRounds();
        make(f, LEAST);
        make(f, MOST);
        check.is("the least HEIGHT at first", f.sweep(0), 1);
        check.is("the greatest HEIGHT at first", f.sweep(1), 30);
        f.rate(9);
        check.is("the least HEIGHT at 9", f.sweep(0), 9);
        check.is("the greatest HEIGHT at 9", f.sweep(1), 270);
        check.is("fees of HAND 0", f.fees(0, 0), 10);
        check.is("fees of HAND 3", f.fees(3, 0), 300);
    }

    private static void sweepOfForbidden() {
        check.says("sweep: STATE: FORBIDDEN");
        behind(f -> {
            make(f, LEAST);
            refuseTimes(f, 0, 3);
        }).refuse("sweep with three REFUSALS", STATE, f -> f.sweep(0));
        behind(f -> {
            make(f, LEAST);
            f.look(0, 0, false);
        }).refuse("sweep of one that is ILL", STATE, f -> f.sweep(0));
        behind(Pasts::busy).refuse("sweep of one that was told ILL of an earlier DAY", STATE, f -> f.sweep(1));
        FlueRounds f = withFlue(LEAST);
        refuseTimes(f, 0, 2);
        check.is("sweep with two REFUSALS", f.sweep(0), 1);
        f.look(0, 0, false);
        f.look(0, 0, true);
        check.is("sweep of one that is WELL again", f.sweep(0), 1);
    }

    private static void refuseTimes(FlueRounds f, int flue, int times) {
        for (int i = 0; i < times; i++) {
            f.refuse(flue);
        }
    }

    private static void sweepByNobody() {
        check.says("sweep: STATE: THE DOER is NONE");
        behind(f -> {
            make(f, MOST);
            f.refuse(0);
            Pasts.allIll(f);
        }).refuse("sweep with all ILL", STATE, f -> f.sweep(0));
        for (int hand = 0; hand < 4; hand++) {
            FlueRounds f = withFlue(MOST);
            Pasts.allIll(f);
            f.ill(hand, false);
            check.is("sweep with all ILL but " + hand, f.sweep(0), 30);
            check.is("its fee", f.fees(hand, 0), 30);
            check.is("its sweeps", f.fees(hand, 1), 1);
        }
    }

    private static void sweepsAreFull() {
        check.says("SWEEPS (100 at most) stay; FULL");
        FlueRounds f = new FlueRounds();
        make(f, MOST);
        f.rate(9);
        for (int i = 1; i <= 100; i++) {
            check.is("sweep " + i, f.sweep(0), 270);
            check.is("SWEEPS", f.count(6), i);
        }
        check.is("sweep 101", f.sweep(0), FULL);
        check.is("fees of a hundred", f.fees(3, 0), 27000);
        check.is("how many", f.fees(3, 1), 100);
        behind(Pasts::fullSweeps).refuse("sweep(0) behind a hundred", FULL, g -> g.sweep(0));
        behind(Pasts::fullSweeps).refuse("sweep(1) behind a hundred", FULL, g -> g.sweep(1));
        f.days(50);
        check.is("a later DAY makes no room", f.sweep(0), FULL);
    }

    private static void sweepRefusalsInTheirOrder() {
        check.says("sweep: BAD, then STATE, then FULL");
        behind(Pasts::fullSweeps).refuse("no such FLUE, and FULL", BAD, f -> f.sweep(2));
        behind(f -> {
            Pasts.fullSweeps(f);
            Pasts.allIll(f);
        }).refuse("no such FLUE, all ILL, and FULL", BAD, f -> f.sweep(2))
            .refuse("all ILL, and FULL", STATE, f -> f.sweep(0));
        behind(f -> {
            Pasts.fullSweeps(f);
            refuseTimes(f, 0, 2);
            f.look(1, 1, false);
        }).refuse("three REFUSALS, and FULL", STATE, f -> f.sweep(0))
            .refuse("one that is ILL, and FULL", STATE, f -> f.sweep(1));
    }

    private static void sweepEndsRefusals() {
        check.says("a sweep ends them");
        for (int times = 0; times <= 2; times++) {
            FlueRounds f = withFlue(LEAST);
            make(f, LEAST);
            f.refuse(1);
            refuseTimes(f, 0, times);
            f.sweep(0);
            check.is("REFUSALS behind " + times + " and a sweep", f.about(0, 5), 0);
            check.is("REFUSALS of the other one", f.about(1, 5), 1);
            for (int i = 1; i <= 3; i++) {
                check.is("refuse behind the sweep", f.refuse(0), i);
            }
            check.is("a fourth", f.refuse(0), STATE);
        }
    }

    // ---- promise 13

    private static void refuseUpToThree() {
        check.says("refuse: how many by now; STATE: FORBIDDEN");
        behind(f -> {
            make(f, LEAST);
            refuseTimes(f, 0, 3);
        }).refuse("a fourth refuse(0)", STATE, f -> f.refuse(0));
        FlueRounds f = withFlue(LEAST);
        for (int i = 1; i <= 3; i++) {
            check.is("refuse(0)", f.refuse(0), i);
        }
        f.days(50);
        check.is("refuse(0) on a later DAY", f.refuse(0), STATE);
        check.is("a LOOK that is WELL", f.look(0, 0, true), 0);
        check.is("refuse(0) behind it", f.refuse(0), 1);
    }

    private static void refuseOfForbidden() {
        check.says("refuse: STATE: AS KNOWN TODAY it is ILL");
        for (int times = 0; times <= 2; times++) {
            int had = times;
            behind(f -> {
                make(f, LEAST);
                refuseTimes(f, 0, had);
                f.look(0, 0, false);
            }).refuse("refuse(0) of one that is ILL, behind " + times, STATE, f -> f.refuse(0));
        }
        FlueRounds f = withFlue(LEAST);
        f.refuse(0);
        f.look(0, 0, false);
        check.is("a LOOK that is ILL ends none", f.about(0, 5), 1);
        f.days(1);
        f.look(0, 1, true);
        check.is("a LOOK that is WELL ends them", f.refuse(0), 1);
    }
}
