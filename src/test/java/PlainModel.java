import java.util.ArrayList;
import java.util.Comparator;
import java.util.List;
import java.util.regex.Matcher;
import java.util.regex.Pattern;

/**
 * The document said again, with lists, patterns and all rows tried, so that it shares no way of
 * working with the class that it is compared with.
 */
final class PlainModel {
    private static final int BAD = -1, STATE = -2, FULL = -3, NONE = -9;
    private static final String SPAN_ITEM = "[gwc](?:200|1[0-9][0-9]|[1-9][0-9]?)";
    private static final String FROM_ITEM = "@(?:500|[1-4][0-9][0-9]|[1-9][0-9]?|0)";
    private static final Pattern WHOLE = Pattern.compile("(?: |" + SPAN_ITEM + "|" + FROM_ITEM + ")*");
    private static final Pattern ITEM = Pattern.compile("([gwc@])([0-9]+)");

    private record Law(int told, String text) { }
    private record Look(int flue, int day, int told, boolean well, int number) { }
    private record Fire(int flue, int day) { }
    private record Sweep(int flue, int day, int hand, int fee) { }
    private record Flue(int[] numbers, int came) {
        int kind() { return numbers[0]; }
        int fuel() { return numbers[1]; }
        int height() { return numbers[2]; }
        int width() { return numbers[3]; }
        int bends() { return numbers[4]; }
        int x() { return numbers[5]; }
        int y() { return numbers[6]; }
        int hand() { return numbers[7]; }
    }

    private int today = 0;
    private int rate = 1;
    private long trace = 0;
    private String draft = "";
    private final List<Law> laws = new ArrayList<>();
    private final List<Flue> flues = new ArrayList<>();
    private final List<Integer> refusals = new ArrayList<>();
    private final List<Look> looks = new ArrayList<>();
    private final List<Fire> fires = new ArrayList<>();
    private final List<Sweep> sweeps = new ArrayList<>();
    private final boolean[] ill = new boolean[4];
    private List<Integer> row = new ArrayList<>();
    private int way = 0;

    int type(long v, int n) {
        if (n < 1 || n > 8) return BAD;
        if (draft.length() + n > 60) return FULL;
        String hex = String.format("%016x", v).substring(16 - 2 * n);
        for (int i = 0; i < n; i++) draft += (char) Integer.parseInt(hex.substring(2 * i, 2 * i + 2), 16);
        return draft.length();
    }

    int clear() {
        int had = draft.length();
        draft = "";
        return had;
    }

    int law() {
        if (draft.isEmpty()) return STATE;
        for (int i = 0; i < draft.length(); i++) {
            String part = draft.substring(0, i + 1);
            if (!isLaw(part) && !isLaw(part + "1")) return -100 - i;
        }
        if (!isLaw(draft)) return -100 - draft.length();
        if (laws.size() == 6) return FULL;
        laws.add(new Law(today, draft));
        draft = "";
        return laws.size() - 1;
    }

    private static boolean isLaw(String text) {
        return WHOLE.matcher(text).matches();
    }

    int span(int fuel, int day) {
        if (fuel < 0 || fuel > 2 || day < 0 || day > 500) return BAD;
        return spanBy(fuel, day, 500);
    }

    private int spanBy(int fuel, int day, int toldBy) {
        String text = "";
        for (Law law : laws) if (law.told <= day && law.told <= toldBy) text = law.text;
        int from = 0;
        int span = 100;
        Matcher m = ITEM.matcher(text);
        while (m.find()) {
            int number = Integer.parseInt(m.group(2));
            int fuelOf = "gwc".indexOf(m.group(1));
            if (fuelOf < 0) from = number;
            else if (fuelOf == fuel && from <= day) span = number;
        }
        return span;
    }

    int days(int n) {
        if (n < 1 || n > 50) return BAD;
        if (today + n > 500) return STATE;
        return today += n;
    }

    int flue(int... a) {
        int[] least = {0, 0, 1, 10, 0, 0, 0, 0};
        int[] most = {2, 2, 30, 40, 4, 20, 20, 3};
        for (int i = 0; i < 8; i++) if (a[i] < least[i] || a[i] > most[i]) return BAD;
        if (flues.size() == 12) return FULL;
        flues.add(new Flue(a.clone(), today));
        refusals.add(0);
        return flues.size() - 1;
    }

    private boolean noFlue(int flue) {
        return flue < 0 || flue >= flues.size();
    }

    int draught(int flue) {
        if (noFlue(flue)) return BAD;
        Flue f = flues.get(flue);
        int factor = f.fuel() == 0 ? 10 : f.fuel() == 1 ? 30 : 40;
        int pull = (int) Math.floor((double) f.height() * factor / f.width());
        trace += 1;
        if (f.kind() >= 1) {
            trace += 10;
            for (int i = 0; i < f.bends(); i++) pull -= 2;
            if (pull < 0) pull = 0;
        }
        if (f.kind() == 2) {
            trace += 100;
            pull >>= 1;
        }
        return pull;
    }

    int about(int flue, int what) {
        if (noFlue(flue) || what < 0 || what > 7) return BAD;
        Flue f = flues.get(flue);
        int[] all = {f.kind(), f.fuel(), f.height(), f.hand(), swept(flue, today)[0], refusals.get(flue),
            forbidden(flue) ? 1 : 0, doer(flue)};
        return all[what];
    }

    /** The DAY and the HAND of the latest sweep up to a DAY. */
    private int[] swept(int flue, int day) {
        int[] last = {flues.get(flue).came, NONE};
        for (Sweep s : sweeps) if (s.flue == flue && s.day <= day) last = new int[] {s.day, s.hand};
        return last;
    }

    private int dueBy(int flue, int day, int toldBy) {
        int last = swept(flue, day)[0];
        int d = 1;
        while (d < spanBy(flues.get(flue).fuel(), last + d, toldBy)) d++;
        return last + d;
    }

    private boolean forbidden(int flue) {
        return refusals.get(flue) == 3 || asKnown(flue, today) == 0;
    }

    private int asKnown(int flue, int day) {
        return looks.stream().filter(l -> l.flue == flue && l.day <= day && l.told <= day)
            .max(Comparator.comparingInt(Look::day).thenComparingInt(Look::number))
            .map(l -> l.well ? 1 : 0).orElse(NONE);
    }

    private int wayOf(int flue, int other) {
        Flue a = flues.get(flue);
        Flue b = flues.get(other);
        return Math.abs(a.x() - b.x()) + Math.abs(a.y() - b.y());
    }

    private int doer(int flue) {
        int own = flues.get(flue).hand();
        if (!ill[own]) return own;
        int best = NONE;
        int least = 0;
        for (int hand = 0; hand < 4; hand++) {
            if (ill[hand]) continue;
            int near = -1;
            for (int i = 0; i < flues.size(); i++) {
                if (flues.get(i).hand() == hand && (near < 0 || wayOf(flue, i) < near)) near = wayOf(flue, i);
            }
            if (near >= 0 && (best == NONE || near < least)) {
                best = hand;
                least = near;
            }
        }
        for (int hand = 0; hand < 4 && best == NONE; hand++) if (!ill[hand]) best = hand;
        return best;
    }

    int due(int flue) {
        return noFlue(flue) ? BAD : dueBy(flue, today, today);
    }

    int beyond() {
        int found = 0;
        for (int i = 0; i < flues.size(); i++) if (!forbidden(i) && today > dueBy(i, today, today)) found++;
        return found;
    }

    int sweep(int flue) {
        if (noFlue(flue)) return BAD;
        if (forbidden(flue) || doer(flue) == NONE) return STATE;
        if (sweeps.size() == 100) return FULL;
        int fee = flues.get(flue).height() * rate;
        sweeps.add(new Sweep(flue, today, doer(flue), fee));
        refusals.set(flue, 0);
        return fee;
    }

    int refuse(int flue) {
        if (noFlue(flue)) return BAD;
        if (forbidden(flue)) return STATE;
        refusals.set(flue, refusals.get(flue) + 1);
        return refusals.get(flue);
    }

    int look(int flue, int day, boolean well) {
        if (noFlue(flue) || day < 0 || day > today) return BAD;
        if (day < flues.get(flue).came) return STATE;
        if (looks.size() == 30) return FULL;
        looks.add(new Look(flue, day, today, well, looks.size()));
        if (well) refusals.set(flue, 0);
        return looks.size() - 1;
    }

    int known(int flue, int day) {
        return noFlue(flue) || day < 0 || day > today ? BAD : asKnown(flue, day);
    }

    int fire(int flue, int day) {
        if (noFlue(flue) || day < 0 || day > today) return BAD;
        if (day < flues.get(flue).came) return STATE;
        if (fires.size() == 10) return FULL;
        fires.add(new Fire(flue, day));
        return fires.size() - 1;
    }

    int back(int fire, int what) {
        if (fire < 0 || fire >= fires.size() || what < 0 || what > 5) return BAD;
        Fire f = fires.get(fire);
        int[] last = swept(f.flue, f.day);
        boolean late = f.day > dueBy(f.flue, f.day, f.day);
        return new int[] {f.flue, f.day, last[0], last[1], late ? 1 : 0, asKnown(f.flue, f.day)}[what];
    }

    int rate(int v) {
        if (v < 1 || v > 9) return BAD;
        int was = rate;
        rate = v;
        return was;
    }

    int ill(int hand, boolean is) {
        if (hand < 0 || hand > 3) return BAD;
        int was = ill[hand] ? 1 : 0;
        ill[hand] = is;
        return was;
    }

    int fees(int hand, int what) {
        if (hand < 0 || hand > 3 || what < 0 || what > 1) return BAD;
        return sweeps.stream().filter(s -> s.hand == hand).mapToInt(s -> what == 0 ? s.fee : 1).sum();
    }

    int round(int hand, int n, int day) {
        if (hand < 0 || hand > 3 || n < 1 || n > 6 || day < 0 || day > 800) return BAD;
        List<Integer> chosen = new ArrayList<>();
        for (int i = 0; i < flues.size(); i++) {
            if (doer(i) == hand && !forbidden(i) && dueBy(i, today, today) <= day) chosen.add(i);
        }
        chosen.sort(Comparator.comparingInt((Integer i) -> dueBy(i, today, today)).thenComparingInt(i -> i));
        if (chosen.size() > n) chosen = chosen.subList(0, n);
        row = null;
        way = 0;
        tryRows(new ArrayList<>(), new ArrayList<>(chosen));
        return row.size();
    }

    private void tryRows(List<Integer> done, List<Integer> left) {
        if (left.isEmpty()) {
            int length = lengthOf(done);
            if (row == null || length < way || length == way && isFirst(done, row)) {
                row = new ArrayList<>(done);
                way = length;
            }
        }
        for (int i = 0; i < left.size(); i++) {
            List<Integer> rest = new ArrayList<>(left);
            done.add(rest.remove(i));
            tryRows(done, rest);
            done.remove(done.size() - 1);
        }
    }

    private int lengthOf(List<Integer> stops) {
        int x = 0;
        int y = 0;
        int length = 0;
        for (int i : stops) {
            length += Math.abs(flues.get(i).x() - x) + Math.abs(flues.get(i).y() - y);
            x = flues.get(i).x();
            y = flues.get(i).y();
        }
        return length + x + y;
    }

    private static boolean isFirst(List<Integer> one, List<Integer> other) {
        for (int i = 0; i < one.size(); i++) {
            int order = Integer.compare(one.get(i), other.get(i));
            if (order != 0) return order < 0;
        }
        return false;
    }

    int at(int i) {
        if (i < 0 || i > 6) return BAD;
        return i == 6 ? way : i < row.size() ? row.get(i) : NONE;
    }

    int count(int what) {
        if (what < 0 || what > 6) return BAD;
        return new int[] {flues.size(), today, draft.length(), laws.size(), looks.size(), fires.size(),
            sweeps.size()}[what];
    }

    long trace() {
        return trace;
    }
}
