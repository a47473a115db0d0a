import java.util.ArrayList;
import java.util.List;
import java.util.function.Consumer;
import java.util.function.ToLongFunction;

/**
 * Two objects with one past. On one of them a call is refused; behind it both must answer alike, which
 * is what "nothing changes" means. Each view has twins of its own, because some of its calls change much
 * and because an object is promised for 512 calls only.
 */
final class Twins {
    private static final List<Consumer<Notes>> VIEWS = List.of(Twins::seeFlues, Twins::seeWhatIsKept, Twins::goOn);
    private static final int[] DAYS = {0, 1, 9, 10, 19, 20, 21, 99, 250, 500};

    private final Check check;
    private final Consumer<FlueRounds> past;

    Twins(Check check, Consumer<FlueRounds> past) {
        this.check = check;
        this.past = past;
    }

    /** The call is refused with this answer, each time, and nothing changes. */
    Twins refuse(String call, long want, ToLongFunction<FlueRounds> made) {
        for (Consumer<Notes> view : VIEWS) {
            Notes one = new Notes(past);
            Notes other = new Notes(past);
            check.is(call, made.applyAsLong(one.f), want);
            check.is(call + " once more", made.applyAsLong(one.f), want);
            view.accept(one);
            view.accept(other);
            compare(call, one, other);
        }
        return this;
    }

    private void compare(String call, Notes one, Notes other) {
        for (int i = 0; i < other.calls.size(); i++) {
            check.is("behind the refused " + call + ", " + other.calls.get(i), one.answers.get(i), other.answers.get(i));
        }
    }

    private static void seeFlues(Notes n) {
        for (int what = 0; what <= 6; what++) {
            n.note("count " + what, n.f.count(what));
            n.note("at " + what, n.f.at(what));
        }
        n.note("trace", n.f.trace());
        n.note("beyond", n.f.beyond());
        for (int hand = 0; hand < 4; hand++) {
            n.note("fees of " + hand, n.f.fees(hand, 0));
            n.note("sweeps of " + hand, n.f.fees(hand, 1));
        }
        for (int flue = 0; flue < 12; flue++) {
            n.note("due " + flue, n.f.due(flue));
            for (int what = 0; what <= 7; what++) {
                n.note("about " + flue + ", " + what, n.f.about(flue, what));
            }
        }
    }

    private static void seeWhatIsKept(Notes n) {
        for (int fire = 0; fire < 10; fire++) {
            for (int what = 0; what <= 5; what++) {
                n.note("back " + fire + ", " + what, n.f.back(fire, what));
            }
        }
        for (int day : DAYS) {
            for (int fuel = 0; fuel < 3; fuel++) {
                n.note("span " + fuel + ", " + day, n.f.span(fuel, day));
            }
        }
        int today = n.f.count(1);
        for (int flue = 0; flue < 12; flue++) {
            for (int day : new int[] {0, today / 2, today - 1, today}) {
                n.note("known " + flue + ", " + day, n.f.known(flue, day));
            }
        }
    }

    /** What can't be asked for (THE DRAFT's bytes, THE RATE, who is ILL, the next numbers) shows in later calls. */
    private static void goOn(Notes n) {
        int today = n.f.count(1);
        n.note("law", n.f.law());
        for (int fuel = 0; fuel < 3; fuel++) {
            n.note("span behind law", n.f.span(fuel, today));
        }
        n.note("clear", n.f.clear());
        n.note("sweep", n.f.sweep(0));
        for (int hand = 0; hand < 4; hand++) {
            n.note("round of " + hand, n.f.round(hand, 6, 800));
            for (int i = 0; i <= 6; i++) {
                n.note("then at " + i, n.f.at(i));
            }
        }
        for (int hand = 0; hand < 4; hand++) {
            n.note("ill " + hand, n.f.ill(hand, false));
        }
        n.note("rate", n.f.rate(1));
        for (int flue = 0; flue < 12; flue++) {
            n.note("draught " + flue, n.f.draught(flue));
        }
        n.note("trace behind draughts", n.f.trace());
        n.note("look", n.f.look(0, today, true));
        n.note("fire", n.f.fire(0, today));
        n.note("refuse", n.f.refuse(0));
        n.note("flue", n.f.flue(1, 1, 9, 20, 2, 3, 4, 1));
        n.note("days", n.f.days(1));
    }

    private static final class Notes {
        final FlueRounds f = new FlueRounds();
        final List<String> calls = new ArrayList<>();
        final List<Long> answers = new ArrayList<>();

        Notes(Consumer<FlueRounds> past) {
            past.accept(f);
        }

        void note(String call, long answer) {
            calls.add(call);
            answers.add(answer);
        }
    }
}
