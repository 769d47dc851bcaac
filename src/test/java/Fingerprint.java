import java.util.function.Supplier;

/**
 * All that an object shows of itself, told by asking it and then by going on with it: two objects with the same
 * fingerprint are in the same state as far as anyone can see. Taking it uses the object up.
 */
final class Fingerprint {
    private final CountRounds x;
    private final StringBuilder seen = new StringBuilder();

    private Fingerprint(CountRounds x) {
        this.x = x;
    }

    static String of(CountRounds x) {
        Fingerprint f = new Fingerprint(x);
        f.ask();
        f.goOn();
        return f.seen.toString();
    }

    /** The answer, or the exception's name. */
    static String outcome(Supplier<Object> call) {
        try {
            return String.valueOf(call.get());
        } catch (RuntimeException e) {
            return e.getClass().getSimpleName();
        }
    }

    private void see(String what, Supplier<Object> call) {
        seen.append(what).append(' ').append(outcome(call)).append('\n');
    }

    private void ask() {
        for (int i = 0; i < 5; i++) {
            int what = i;
            see("count " + what, () -> x.count(what));
        }
        int[] days = {0, 1, 6, 7, 29, 30, 1000, 10000};
        for (int day : days) {
            see("due " + day, () -> x.due(day));
        }
        see("upper", () -> x.share(0));
        see("lower", () -> x.share(1));
        for (int place = 0; place < x.count(0); place++) {
            askPlace(place);
        }
        for (int count = 1; count <= x.count(2); count++) {
            askCount(count);
        }
    }

    private void askPlace(int place) {
        see("moves " + place, () -> x.moves(place));
        see("last " + place, () -> x.last(place));
        for (int i = 0; i < 6; i++) {
            int good = i;
            see("booked " + place + " " + good, () -> x.booked(place, good));
        }
    }

    private void askCount(int count) {
        int state = x.told(count, 0);
        see("state " + count, () -> state);
        see("findings " + count, () -> x.told(count, 2));
        int places = x.told(count, 1);
        for (int i = 0; i <= places; i++) {
            int what = 10 + i;
            see("place " + i + " of " + count, () -> x.told(count, what));
        }
        see("difference " + count, () -> difference(count, 0));
        see("one more " + count, () -> difference(count, 1));
        for (int i = 0; state == 1 && i < places; i++) {
            int place = x.told(count, 10 + i);
            see("second " + count, () -> x.second(count, place, 0));
            see("second " + count, () -> x.second(count, place, 1));
        }
    }

    private String difference(int count, int i) {
        StringBuilder all = new StringBuilder();
        for (int what = 0; what < 6; what++) {
            all.append(x.differ(count, i, what)).append(' ');
        }
        return all.toString();
    }

    /** Rights, the setting and what was noted show only in what calls bring about. */
    private void goOn() {
        for (int i = 1; i <= x.count(2); i++) {
            int count = i;
            see("freeze " + count, () -> x.freeze(count));
            see("found " + count, () -> x.found(count, x.told(count, 10), 0, 3, 5));
            see("close " + count, () -> x.close(count));
            see("correct " + count, () -> x.correct(count, 0, 1));
            see("corrected " + count, () -> difference(count, 0));
        }
        see("place", () -> x.place(0));
        see("move", () -> x.move(0, 1, 0, 1));
        see("round", () -> x.round(-1, 20, 0));
        see("move after", () -> x.count(1));
        see("booked after", () -> x.booked(0, 0));
    }
}
