import java.util.Random;

/**
 * Runs of up to 512 calls, which is all that an object is promised for, with numbers by a fixed seed; each
 * answer is compared with PlainModel's.
 */
public final class ModelTest {
    private static final int RUNS = 600;
    private static final int CALLS = 512;
    // A ROUND and all its places.
    private static final int MOST_IN_A_STEP = 8;
    private static final Check check = new Check();
    private static final String[] PARTS = {"g", "w", "c", "@", " ", "0", "1", "5", "20", "200", "500", "g3", "w12", "c40",
        "g100", "@10", "@60", "@150", "g200", "w1", "c7", "x", "@0"};

    private final Random random;
    private final int daysBound;
    private final FlueRounds real = new FlueRounds();
    private final PlainModel model = new PlainModel();
    private int calls = 0;

    private ModelTest(int seed) {
        random = new Random(seed);
        // Some runs stay on few DAYS, so that many things share one; others come to the end.
        daysBound = new int[] {1, 4, 15, 50}[seed % 4];
    }

    public static void main(String[] args) {
        for (int seed = 0; seed < RUNS; seed++) {
            ModelTest run = new ModelTest(seed);
            while (run.calls + MOST_IN_A_STEP <= CALLS) {
                run.call("run " + seed + ", call " + run.calls + ": ");
            }
        }
        check.end("ModelTest");
    }

    private void same(String call, long got, long want) {
        calls++;
        check.is(call, got, want);
    }

    /** Mostly from least to most; at times a number beside them, or a very great one. */
    private int pick(int least, int most) {
        int dice = random.nextInt(60);
        if (dice == 0) return least - 1;
        if (dice == 1) return most + 1;
        if (dice == 2) return random.nextInt();
        return most < least ? least : least + random.nextInt(most - least + 1);
    }

    private int someFlue() {
        return pick(0, Math.max(0, model.count(0) - 1));
    }

    private int someDay() {
        int today = model.count(1);
        return random.nextBoolean() ? pick(Math.max(0, today - 5), today) : pick(0, today);
    }

    private void call(String at) {
        int dice = random.nextInt(100);
        if (dice < 12) draftCall(at);
        else if (dice < 24) timeCall(at);
        else if (dice < 62) flueCall(at);
        else if (dice < 75) fireCall(at);
        else handCall(at);
    }

    private void draftCall(String at) {
        int dice = random.nextInt(10);
        if (dice < 6) {
            String part = PARTS[random.nextInt(PARTS.length)];
            long v = random.nextLong();
            for (char c : part.toCharArray()) v = v << 8 | c;
            int n = random.nextInt(40) == 0 ? pick(1, 8) : part.length();
            same(at + "type(" + v + ", " + n + ")", real.type(v, n), model.type(v, n));
        } else if (dice < 9) {
            int answer = model.law();
            same(at + "law()", real.law(), answer);
            if (answer <= -100 && random.nextInt(3) > 0) {
                same(at + "clear()", real.clear(), model.clear());
            }
        } else {
            same(at + "clear()", real.clear(), model.clear());
        }
    }

    private void timeCall(String at) {
        int dice = random.nextInt(4);
        if (dice == 0) {
            int n = pick(1, daysBound);
            same(at + "days(" + n + ")", real.days(n), model.days(n));
        } else if (dice == 1) {
            int what = pick(0, 6);
            same(at + "count(" + what + ")", real.count(what), model.count(what));
        } else {
            int fuel = pick(0, 2);
            int day = pick(0, 500);
            same(at + "span(" + fuel + ", " + day + ")", real.span(fuel, day), model.span(fuel, day));
        }
    }

    private void flueCall(String at) {
        int flue = someFlue();
        switch (random.nextInt(8)) {
            case 0:
                makeFlue(at);
                break;
            case 1:
                same(at + "draught(" + flue + ")", real.draught(flue), model.draught(flue));
                same(at + "trace()", real.trace(), model.trace());
                break;
            case 2:
                same(at + "due(" + flue + ")", real.due(flue), model.due(flue));
                break;
            case 3:
                same(at + "beyond()", real.beyond(), model.beyond());
                break;
            case 4:
                same(at + "sweep(" + flue + ")", real.sweep(flue), model.sweep(flue));
                break;
            case 5:
                same(at + "refuse(" + flue + ")", real.refuse(flue), model.refuse(flue));
                break;
            default:
                int what = pick(0, 7);
                same(at + "about(" + flue + ", " + what + ")", real.about(flue, what), model.about(flue, what));
        }
    }

    private void makeFlue(String at) {
        int[] a = {pick(0, 2), pick(0, 2), pick(1, 30), pick(10, 40), pick(0, 4), pick(0, 20), pick(0, 20), pick(0, 3)};
        if (random.nextBoolean()) {
            // PLACES that are near one another have more ways of one length.
            a[5] = pick(0, 3);
            a[6] = pick(0, 3);
        }
        same(at + "flue(" + java.util.Arrays.toString(a) + ")",
            real.flue(a[0], a[1], a[2], a[3], a[4], a[5], a[6], a[7]), model.flue(a));
    }

    private void fireCall(String at) {
        int flue = someFlue();
        int day = someDay();
        int dice = random.nextInt(8);
        if (dice == 0) {
            same(at + "fire(" + flue + ", " + day + ")", real.fire(flue, day), model.fire(flue, day));
        } else if (dice < 3) {
            boolean well = random.nextInt(3) > 0;
            same(at + "look(" + flue + ", " + day + ", " + well + ")",
                real.look(flue, day, well), model.look(flue, day, well));
        } else if (dice < 5) {
            same(at + "known(" + flue + ", " + day + ")", real.known(flue, day), model.known(flue, day));
        } else {
            int fire = pick(0, Math.max(0, model.count(5) - 1));
            int what = pick(0, 5);
            same(at + "back(" + fire + ", " + what + ")", real.back(fire, what), model.back(fire, what));
        }
    }

    private void handCall(String at) {
        int hand = pick(0, 3);
        switch (random.nextInt(6)) {
            case 0:
                int v = pick(1, 9);
                same(at + "rate(" + v + ")", real.rate(v), model.rate(v));
                break;
            case 1:
                boolean is = random.nextInt(5) < 2;
                same(at + "ill(" + hand + ", " + is + ")", real.ill(hand, is), model.ill(hand, is));
                break;
            case 2:
                int what = pick(0, 1);
                same(at + "fees(" + hand + ", " + what + ")", real.fees(hand, what), model.fees(hand, what));
                break;
            case 3:
                int i = pick(0, 6);
                same(at + "at(" + i + ")", real.at(i), model.at(i));
                break;
            default:
                round(at, hand, pick(1, 6), random.nextBoolean() ? pick(0, 800) : pick(700, 800));
        }
    }

    private void round(String at, int hand, int n, int day) {
        same(at + "round(" + hand + ", " + n + ", " + day + ")", real.round(hand, n, day), model.round(hand, n, day));
        for (int i = 0; i <= 6; i++) {
            same(at + "at(" + i + ")", real.at(i), model.at(i));
        }
    }
}
