/**
 * Sweeps of a city. Words in capitals are those of the document.
 *
 * Rows are kept as columns of numbers that are made once, with the object: no element of them can be
 * null, and no call but the constructor makes anything.
 */
public final class FlueRounds {
    public static final int BAD = -1, STATE = -2, FULL = -3, NONE = -9;

    private static final int FUELS = 3;
    private static final int HANDS = 4;
    private static final int LAST_DAY = 500;
    private static final int LAST_ROUND_DAY = 800;
    private static final int FAULT_AT_START = -100;
    private static final int REFUSALS_THAT_FORBID = 3;
    private static final int FAR = 1000000;

    private final Draft draft = new Draft();
    private final LawBook book = new LawBook();
    private final Flues flues = new Flues();
    private final Looks looks = new Looks();
    private final Fires fires = new Fires();
    private final Sweeps sweeps = new Sweeps();
    private final Tour tour = new Tour();
    private final boolean[] handIsIll = new boolean[HANDS];
    private int today = 0;
    private int feeRate = 1;
    private long asked = 0;

    public FlueRounds() {
    }

    // ---- laws

    public int type(long v, int n) {
        if (!within(n, 1, 8)) {
            return BAD;
        }
        if (!draft.hasRoomFor(n)) {
            return FULL;
        }
        draft.append(v, n);
        return draft.size;
    }

    public int clear() {
        return draft.empty();
    }

    public int law() {
        if (draft.size == 0) {
            return STATE;
        }
        int fault = draft.readItems();
        if (fault != NONE) {
            return FAULT_AT_START - fault;
        }
        if (book.isFull()) {
            return FULL;
        }
        int number = book.add(draft, today);
        draft.empty();
        return number;
    }

    public int span(int fuel, int day) {
        if (!within(fuel, 0, FUELS - 1) || !within(day, 0, LAST_DAY)) {
            return BAD;
        }
        return book.spanOn(fuel, day);
    }

    public int days(int n) {
        if (!within(n, 1, 50)) {
            return BAD;
        }
        if (today + n > LAST_DAY) {
            return STATE;
        }
        today += n;
        return today;
    }

    // ---- flues

    public int flue(int kind, int fuel, int height, int width, int bends, int x, int y, int hand) {
        if (!isBody(kind, fuel, height, width, bends) || !isPlace(x, y) || !isHand(hand)) {
            return BAD;
        }
        if (flues.isFull()) {
            return FULL;
        }
        flues.setBody(kind, fuel, height, width, bends);
        flues.setPlace(x, y, hand, today);
        return flues.add();
    }

    public int draught(int flue) {
        if (!flues.has(flue)) {
            return BAD;
        }
        switch (flues.kind[flue]) {
            case Flues.STRAIGHT:
                return straightPull(flue);
            case Flues.BENT:
                return bentPull(flue);
            default:
                return sharedPull(flue);
        }
    }

    public int about(int flue, int what) {
        if (!flues.has(flue)) {
            return BAD;
        }
        switch (what) {
            case 0:
                return flues.kind[flue];
            case 1:
                return flues.fuel[flue];
            case 2:
                return flues.height[flue];
            case 3:
                return flues.hand[flue];
            case 4:
                return sweptBy(flue, today);
            case 5:
                return flues.refusals[flue];
            case 6:
                return asNumber(isForbidden(flue));
            case 7:
                return doerOf(flue);
            default:
                return BAD;
        }
    }

    public int due(int flue) {
        if (!flues.has(flue)) {
            return BAD;
        }
        return dueOf(flue);
    }

    public int beyond() {
        int found = 0;
        for (int flue = 0; flue < flues.size; flue++) {
            if (!isForbidden(flue) && wasBeyond(flue, today)) {
                found++;
            }
        }
        return found;
    }

    public int sweep(int flue) {
        if (!flues.has(flue)) {
            return BAD;
        }
        int doer = doerOf(flue);
        if (isForbidden(flue) || doer == NONE) {
            return STATE;
        }
        if (sweeps.isFull()) {
            return FULL;
        }
        int fee = flues.height[flue] * feeRate;
        sweeps.add(flue, today, doer, fee);
        flues.refusals[flue] = 0;
        return fee;
    }

    public int refuse(int flue) {
        if (!flues.has(flue)) {
            return BAD;
        }
        if (isForbidden(flue)) {
            return STATE;
        }
        flues.refusals[flue]++;
        return flues.refusals[flue];
    }

    public int look(int flue, int day, boolean well) {
        if (!flues.has(flue) || !within(day, 0, today)) {
            return BAD;
        }
        if (flues.came[flue] > day) {
            return STATE;
        }
        if (looks.isFull()) {
            return FULL;
        }
        if (well) {
            flues.refusals[flue] = 0;
        }
        return looks.add(flue, day, today, well);
    }

    public int known(int flue, int day) {
        if (!flues.has(flue) || !within(day, 0, today)) {
            return BAD;
        }
        return looks.asKnown(flue, day);
    }

    public int fire(int flue, int day) {
        if (!flues.has(flue) || !within(day, 0, today)) {
            return BAD;
        }
        if (flues.came[flue] > day) {
            return STATE;
        }
        if (fires.isFull()) {
            return FULL;
        }
        return fires.add(flue, day);
    }

    public int back(int fire, int what) {
        if (!fires.has(fire)) {
            return BAD;
        }
        int flue = fires.flue[fire];
        int day = fires.day[fire];
        switch (what) {
            case 0:
                return flue;
            case 1:
                return day;
            case 2:
                return sweptBy(flue, day);
            case 3:
                return sweeperBy(flue, day);
            case 4:
                return asNumber(wasBeyond(flue, day));
            case 5:
                return looks.asKnown(flue, day);
            default:
                return BAD;
        }
    }

    // ---- hands

    public int rate(int v) {
        if (!within(v, 1, 9)) {
            return BAD;
        }
        int was = feeRate;
        feeRate = v;
        return was;
    }

    public int ill(int hand, boolean is) {
        if (!isHand(hand)) {
            return BAD;
        }
        int was = asNumber(handIsIll[hand]);
        handIsIll[hand] = is;
        return was;
    }

    public int fees(int hand, int what) {
        if (!isHand(hand)) {
            return BAD;
        }
        switch (what) {
            case 0:
                return sweeps.earnedBy(hand);
            case 1:
                return sweeps.doneBy(hand);
            default:
                return BAD;
        }
    }

    public int round(int hand, int n, int day) {
        if (!isHand(hand) || !within(n, 1, Tour.MOST) || !within(day, 0, LAST_ROUND_DAY)) {
            return BAD;
        }
        for (int flue = 0; flue < flues.size; flue++) {
            flues.waiting[flue] = waitingSince(flue, hand, day);
        }
        tour.restart();
        for (int flue = 0; flue < flues.size; flue++) {
            if (flues.waiting[flue] != NONE && flues.waitingAheadOf(flue) < n) {
                tour.addStop(flue, flues.x[flue], flues.y[flue]);
            }
        }
        tour.findLeastWay();
        return tour.size;
    }

    public int at(int i) {
        if (!within(i, 0, Tour.MOST)) {
            return BAD;
        }
        return i == Tour.MOST ? tour.way : tour.flueAt(i);
    }

    public int count(int what) {
        switch (what) {
            case 0:
                return flues.size;
            case 1:
                return today;
            case 2:
                return draft.size;
            case 3:
                return book.size;
            case 4:
                return looks.size;
            case 5:
                return fires.size;
            case 6:
                return sweeps.size;
            default:
                return BAD;
        }
    }

    public long trace() {
        return asked;
    }

    // ---- what a number may be

    private static boolean within(int v, int least, int most) {
        return v >= least && v <= most;
    }

    private static int asNumber(boolean is) {
        return is ? 1 : 0;
    }

    private static boolean isHand(int hand) {
        return within(hand, 0, HANDS - 1);
    }

    private static boolean isPlace(int x, int y) {
        return within(x, 0, 20) && within(y, 0, 20);
    }

    private static boolean isBody(int kind, int fuel, int height, int width, int bends) {
        return within(kind, Flues.STRAIGHT, Flues.SHARED) && within(fuel, 0, FUELS - 1)
            && within(height, 1, 30) && within(width, 10, 40) && within(bends, 0, 4);
    }

    // ---- draughts: each KIND asks the one that stands over it

    private int straightPull(int flue) {
        asked += 1;
        return flues.openPull(flue);
    }

    private int bentPull(int flue) {
        asked += 10;
        return Math.max(0, straightPull(flue) - 2 * flues.bends[flue]);
    }

    private int sharedPull(int flue) {
        asked += 100;
        return bentPull(flue) / 2;
    }

    // ---- the days of a flue

    private int sweptBy(int flue, int day) {
        int last = sweeps.latest(flue, day);
        return last == NONE ? flues.came[flue] : sweeps.day[last];
    }

    private int sweeperBy(int flue, int day) {
        int last = sweeps.latest(flue, day);
        return last == NONE ? NONE : sweeps.hand[last];
    }

    private int dueOf(int flue) {
        return book.firstDue(flues.fuel[flue], sweptBy(flue, today));
    }

    /**
     * LAWS told behind the DAY need not be left out: they are in force on no DAY ahead of it, and
     * only such DAYS can make the FLUE be BEYOND.
     */
    private boolean wasBeyond(int flue, int day) {
        return day > book.firstDue(flues.fuel[flue], sweptBy(flue, day));
    }

    private boolean isForbidden(int flue) {
        return flues.refusals[flue] >= REFUSALS_THAT_FORBID || looks.asKnown(flue, today) == Looks.ILL;
    }

    // ---- who does it

    private int doerOf(int flue) {
        int own = flues.hand[flue];
        if (!handIsIll[own]) {
            return own;
        }
        int near = nearestHand(flue);
        return near == NONE ? leastHandNotIll() : near;
    }

    private int nearestHand(int flue) {
        int best = NONE;
        int least = FAR;
        for (int other = 0; other < flues.size; other++) {
            int hand = flues.hand[other];
            int way = flues.wayBetween(flue, other);
            if (!handIsIll[hand] && (way < least || way == least && hand < best)) {
                best = hand;
                least = way;
            }
        }
        return best;
    }

    private int leastHandNotIll() {
        for (int hand = 0; hand < HANDS; hand++) {
            if (!handIsIll[hand]) {
                return hand;
            }
        }
        return NONE;
    }

    /** DUE of a FLUE that may come to THE ROUND of a HAND by a DAY; NONE, if it may not. */
    private int waitingSince(int flue, int hand, int day) {
        if (doerOf(flue) != hand || isForbidden(flue)) {
            return NONE;
        }
        int first = dueOf(flue);
        return first <= day ? first : NONE;
    }

    /** THE DRAFT, and the ITEMS that were read from it latest. */
    private static final class Draft {
        static final int MOST_BYTES = 60;
        // An ITEM has two bytes at least.
        static final int MOST_ITEMS = 30;
        static final int GREATEST_SPAN = 200;

        final int[] bytes = new int[MOST_BYTES];
        int size = 0;
        final int[] itemFuel = new int[MOST_ITEMS];
        final int[] itemSpan = new int[MOST_ITEMS];
        final int[] itemFrom = new int[MOST_ITEMS];
        int items = 0;
        private int place = 0;
        private int number = 0;
        private int from = 0;

        boolean hasRoomFor(int n) {
            return size + n <= MOST_BYTES;
        }

        void append(long v, int n) {
            for (int behind = n - 1; behind >= 0 && size < MOST_BYTES; behind--) {
                bytes[size] = (int) (v >>> (8 * behind)) & 255;
                size++;
            }
        }

        int empty() {
            int had = size;
            size = 0;
            return had;
        }

        /** The place of the FAULT; NONE, if the bytes are a LAW. */
        int readItems() {
            items = 0;
            place = 0;
            from = 0;
            // Each step takes a byte at least.
            for (int step = 0; step < MOST_BYTES && place < size; step++) {
                if (!readStep(bytes[place])) {
                    return place;
                }
            }
            return NONE;
        }

        /** Takes a blank or an ITEM that begins with this byte; if it can't, place is the FAULT's. */
        private boolean readStep(int first) {
            switch (first) {
                case ' ':
                    place++;
                    return true;
                case '@':
                    return readFrom();
                case 'g':
                    return readSpan(0);
                case 'w':
                    return readSpan(1);
                case 'c':
                    return readSpan(2);
                default:
                    return false;
            }
        }

        private boolean readFrom() {
            if (!readNumber(0, LAST_DAY)) {
                return false;
            }
            from = number;
            return true;
        }

        private boolean readSpan(int fuel) {
            if (!readNumber(1, GREATEST_SPAN)) {
                return false;
            }
            if (items < MOST_ITEMS) {
                itemFuel[items] = fuel;
                itemSpan[items] = number;
                itemFrom[items] = from;
                items++;
            }
            return true;
        }

        /** Reads the number right behind place, and leaves place behind it. */
        private boolean readNumber(int least, int most) {
            place++;
            number = digitAtPlace();
            // What is no digit counts as less than 0, and so is less than any least number.
            if (number < least) {
                return false;
            }
            place++;
            // Behind a 0 that stands ahead no digit can stand.
            while (number > 0 && place < size) {
                int digit = digitAtPlace();
                if (digit < 0) {
                    return true;
                }
                if (number * 10 + digit > most) {
                    return false;
                }
                number = number * 10 + digit;
                place++;
            }
            return true;
        }

        private int digitAtPlace() {
            if (place >= size) {
                return -1;
            }
            int digit = bytes[place] - '0';
            return digit <= 9 ? digit : -1;
        }
    }

    /** LAWS in the row in which they were told; ITEMS of one stand between its start and the next one's. */
    private static final class LawBook {
        static final int MOST = 6;
        static final int SPAN_WITHOUT_ITEM = 100;

        final int[] told = new int[MOST];
        final int[] start = new int[MOST + 1];
        final int[] itemFuel = new int[MOST * Draft.MOST_ITEMS];
        final int[] itemSpan = new int[MOST * Draft.MOST_ITEMS];
        final int[] itemFrom = new int[MOST * Draft.MOST_ITEMS];
        int size = 0;

        boolean isFull() {
            return size >= MOST;
        }

        int add(Draft text, int day) {
            int end = start[size];
            for (int i = 0; i < text.items && end < itemFuel.length; i++) {
                itemFuel[end] = text.itemFuel[i];
                itemSpan[end] = text.itemSpan[i];
                itemFrom[end] = text.itemFrom[i];
                end++;
            }
            told[size] = day;
            size++;
            start[size] = end;
            return size - 1;
        }

        int spanOn(int fuel, int day) {
            int law = inForce(day);
            if (law == NONE) {
                return SPAN_WITHOUT_ITEM;
            }
            for (int i = start[law + 1] - 1; i >= start[law]; i--) {
                if (itemFuel[i] == fuel && itemFrom[i] <= day) {
                    return itemSpan[i];
                }
            }
            return SPAN_WITHOUT_ITEM;
        }

        int firstDue(int fuel, int swept) {
            for (int d = 1; d < Draft.GREATEST_SPAN; d++) {
                if (d >= spanOn(fuel, swept + d)) {
                    return swept + d;
                }
            }
            // No SPAN is greater, so this DAY is always one.
            return swept + Draft.GREATEST_SPAN;
        }

        private int inForce(int day) {
            for (int law = size - 1; law >= 0; law--) {
                if (told[law] <= day) {
                    return law;
                }
            }
            return NONE;
        }
    }

    /** FLUES by their numbers. */
    private static final class Flues {
        static final int MOST = 12;
        static final int STRAIGHT = 0, BENT = 1, SHARED = 2;
        static final int[] PULL_OF_FUEL = {10, 30, 40};

        final int[] kind = new int[MOST];
        final int[] fuel = new int[MOST];
        final int[] height = new int[MOST];
        final int[] width = new int[MOST];
        final int[] bends = new int[MOST];
        final int[] x = new int[MOST];
        final int[] y = new int[MOST];
        final int[] hand = new int[MOST];
        final int[] came = new int[MOST];
        final int[] refusals = new int[MOST];
        // Used while THE ROUND is made: DUE, or NONE for a FLUE that doesn't come to it.
        final int[] waiting = new int[MOST];
        int size = 0;

        boolean has(int flue) {
            return flue >= 0 && flue < size;
        }

        boolean isFull() {
            return size >= MOST;
        }

        /** setBody and setPlace fill the next row; add makes it a FLUE. */
        void setBody(int itsKind, int itsFuel, int itsHeight, int itsWidth, int itsBends) {
            kind[size] = itsKind;
            fuel[size] = itsFuel;
            height[size] = itsHeight;
            width[size] = itsWidth;
            bends[size] = itsBends;
        }

        void setPlace(int itsX, int itsY, int itsHand, int day) {
            x[size] = itsX;
            y[size] = itsY;
            hand[size] = itsHand;
            came[size] = day;
        }

        int add() {
            refusals[size] = 0;
            size++;
            return size - 1;
        }

        int openPull(int flue) {
            int wide = width[flue];
            return wide > 0 ? height[flue] * PULL_OF_FUEL[fuel[flue]] / wide : 0;
        }

        int wayBetween(int one, int other) {
            return Math.abs(x[one] - x[other]) + Math.abs(y[one] - y[other]);
        }

        /** How many of those that wait come ahead of this one, by DUE, then by number. */
        int waitingAheadOf(int flue) {
            int ahead = 0;
            for (int other = 0; other < size; other++) {
                boolean earlier = waiting[other] < waiting[flue]
                    || waiting[other] == waiting[flue] && other < flue;
                if (waiting[other] != NONE && earlier) {
                    ahead++;
                }
            }
            return ahead;
        }
    }

    /** LOOKS in the row in which they were told. */
    private static final class Looks {
        static final int MOST = 30;
        static final int ILL = 0, WELL = 1;

        final int[] flue = new int[MOST];
        final int[] day = new int[MOST];
        final int[] told = new int[MOST];
        final int[] finding = new int[MOST];
        int size = 0;

        boolean isFull() {
            return size >= MOST;
        }

        int add(int ofFlue, int onDay, int toldOn, boolean well) {
            flue[size] = ofFlue;
            day[size] = onDay;
            told[size] = toldOn;
            finding[size] = well ? WELL : ILL;
            size++;
            return size - 1;
        }

        int asKnown(int ofFlue, int onDay) {
            int found = NONE;
            int latest = -1;
            for (int i = 0; i < size; i++) {
                boolean counts = flue[i] == ofFlue && told[i] <= onDay && day[i] <= onDay;
                if (counts && day[i] >= latest) {
                    found = finding[i];
                    latest = day[i];
                }
            }
            return found;
        }
    }

    /** FIRES by their numbers; what they are led back to is found anew each time. */
    private static final class Fires {
        static final int MOST = 10;

        final int[] flue = new int[MOST];
        final int[] day = new int[MOST];
        int size = 0;

        boolean has(int fire) {
            return fire >= 0 && fire < size;
        }

        boolean isFull() {
            return size >= MOST;
        }

        int add(int ofFlue, int onDay) {
            flue[size] = ofFlue;
            day[size] = onDay;
            size++;
            return size - 1;
        }
    }

    /** SWEEPS in the row in which they were done, so that their DAYS never fall. */
    private static final class Sweeps {
        static final int MOST = 100;

        final int[] flue = new int[MOST];
        final int[] day = new int[MOST];
        final int[] hand = new int[MOST];
        final int[] fee = new int[MOST];
        int size = 0;

        boolean isFull() {
            return size >= MOST;
        }

        void add(int ofFlue, int onDay, int byHand, int itsFee) {
            flue[size] = ofFlue;
            day[size] = onDay;
            hand[size] = byHand;
            fee[size] = itsFee;
            size++;
        }

        /** The latest one of a FLUE up to a DAY; NONE, if there is none. */
        int latest(int ofFlue, int upTo) {
            for (int i = size - 1; i >= 0; i--) {
                if (flue[i] == ofFlue && day[i] <= upTo) {
                    return i;
                }
            }
            return NONE;
        }

        int earnedBy(int ofHand) {
            int sum = 0;
            for (int i = 0; i < size; i++) {
                if (hand[i] == ofHand) {
                    sum += fee[i];
                }
            }
            return sum;
        }

        int doneBy(int ofHand) {
            int done = 0;
            for (int i = 0; i < size; i++) {
                if (hand[i] == ofHand) {
                    done++;
                }
            }
            return done;
        }
    }

    /** THE ROUND told latest. Stops are added by numbers of FLUES, so that rows are tried in that order. */
    private static final class Tour {
        static final int MOST = 6;

        final int[] flue = new int[MOST];
        final int[] x = new int[MOST];
        final int[] y = new int[MOST];
        final boolean[] passed = new boolean[MOST];
        final int[] tried = new int[MOST];
        final int[] best = new int[MOST];
        int size = 0;
        int way = 0;

        void restart() {
            size = 0;
        }

        void addStop(int itsFlue, int itsX, int itsY) {
            if (size < MOST) {
                flue[size] = itsFlue;
                x[size] = itsX;
                y[size] = itsY;
                size++;
            }
        }

        int flueAt(int i) {
            return i >= 0 && i < size ? best[i] : NONE;
        }

        void findLeastWay() {
            way = FAR;
            extend(this, 0, 0, 0, 0);
        }

        /** Tries all rows that begin with those of the tried stops, which end at a place after so long a way. */
        private static void extend(Tour t, int depth, int atX, int atY, int gone) {
            // No detour is shorter than going back at once, and of like ways the first row stays.
            int home = gone + atX + atY;
            if (home >= t.way) {
                return;
            }
            if (depth >= t.size) {
                t.keepTried(home);
                return;
            }
            for (int i = 0; i < t.size; i++) {
                if (!t.passed[i]) {
                    t.passed[i] = true;
                    t.tried[depth] = t.flue[i];
                    int step = Math.abs(t.x[i] - atX) + Math.abs(t.y[i] - atY);
                    extend(t, depth + 1, t.x[i], t.y[i], gone + step);
                    t.passed[i] = false;
                }
            }
        }

        private void keepTried(int itsWay) {
            way = itsWay;
            for (int i = 0; i < size; i++) {
                best[i] = tried[i];
            }
        }
    }
}
