import java.util.NoSuchElementException;

/** The boundary cases that promises 18 to 23 name: shares, days, what is booked, told and counted. */
final class FigureBoundaries {
    private static final Class<NoSuchElementException> NSE = NoSuchElementException.class;
    private static final Class<IllegalArgumentException> IAE = IllegalArgumentException.class;

    private final Checks checks;
    private final Sentences sentences;

    FigureBoundaries(Checks checks, Sentences sentences) {
        this.checks = checks;
        this.sentences = sentences;
    }

    void all() {
        sharesInLowestTerms();
        sharesOfNoSideOrNoTimes();
        lastCounted();
        dueAtADay();
        bookedOfAGood();
        toldOfACount();
        toldPlaces();
        toldNoSuch();
        counts();
        notPromised();
    }

    /** Counts all 20 places at once, the first so many of them right. */
    private static void countAll(CountRounds x, int right) {
        int count = x.round(0, 20, 0);
        x.freeze(count);
        for (int place = 0; place < 20; place++) {
            x.found(count, place, 0, place < right ? 0 : 1, 0);
        }
        x.close(count);
    }

    private void share(String what, CountRounds x, int upper, int lower) {
        checks.same(what + ", upper", x.share(0), upper);
        checks.same(what + ", lower", x.share(1), lower);
    }

    private void sharesInLowestTerms() {
        sentences.test("Promise 18", "Of all times that places were counted the share of those when they were right, in lowest"
                + " terms: its upper number (side 0), or its lower one (1).");
        CountRounds x = Scenes.withPlaces(0);
        Scenes.countOne(x, 0, 1);
        share("0 of 1", x, 0, 1);
        Scenes.countOne(x, 0, 1);
        share("0 of 2", x, 0, 1);
        Scenes.countOne(x, 0, 0);
        share("1 of 3", x, 1, 3);
        Scenes.countOne(x, 0, 0);
        share("2 of 4", x, 1, 2);
        Scenes.countOne(x, 0, 0);
        share("3 of 5", x, 3, 5);
        CountRounds one = Scenes.withPlaces(0);
        Scenes.countOne(one, 0, 0);
        share("1 of 1", one, 1, 1);
        int[][] full = {{20, 20, 1, 1}, {0, 0, 0, 1}, {20, 19, 399, 400}, {0, 1, 1, 400}, {12, 12, 3, 5}, {10, 0, 19, 40}};
        for (int[] f : full) {
            CountRounds y = Scenes.withPlaces(new int[20]);
            for (int count = 0; count < 19; count++) {
                countAll(y, f[0]);
            }
            countAll(y, f[1]);
            share("400 times, " + (19 * f[0] + f[1]) + " right", y, f[2], f[3]);
        }
    }

    private void sharesOfNoSideOrNoTimes() {
        sentences.test("Promise 18", "IllegalArgumentException; ArithmeticException (the machine's own) if there were none.");
        CountRounds x = new CountRounds();
        noShare("new", x);
        x.place(0);
        noShare("a place", x);
        x.round(0, 1, 0);
        x.freeze(1);
        x.found(1, 0, 0, 1, 0);
        noShare("a finding", x);
        CountRounds untold = Scenes.frozen(1);
        untold.close(1);
        noShare("a count of which nothing was told", untold);
        x.close(1);
        share("counted", x, 0, 1);
        for (int side : new int[] {-1, 2, Integer.MIN_VALUE, Integer.MAX_VALUE}) {
            checks.refused("side " + side, IAE, () -> x.share(side));
        }
    }

    private void noShare(String when, CountRounds x) {
        checks.refused(when + ": upper", ArithmeticException.class, () -> x.share(0));
        checks.refused(when + ": lower", ArithmeticException.class, () -> x.share(1));
        checks.refused(when + ": no side", IAE, () -> x.share(2));
        checks.refused(when + ": no side", IAE, () -> x.share(-1));
    }

    private void lastCounted() {
        sentences.test("Promise 19", "The day on which a place was counted last; -1 if it never was.");
        CountRounds x = Scenes.withPlaces(0, 1);
        checks.same("never", x.last(0), -1);
        Scenes.countOne(x, 0, 0);
        checks.same("day 0", x.last(0), 0);
        x.day(9999);
        Scenes.countOne(x, 0, 5);
        checks.same("the later one", x.last(0), 9999);
        x.round(0, 1, 0);
        x.freeze(3);
        x.day(10000);
        x.close(3);
        checks.same("nothing told", x.last(0), 9999);
        Scenes.countOne(x, 0, 0);
        checks.same("the last day", x.last(0), 10000);
        checks.same("another place never", x.last(1), -1);
        for (int place : new int[] {-1, 2, 20, Integer.MIN_VALUE, Integer.MAX_VALUE}) {
            checks.refused("place " + place, NSE, () -> x.last(place));
        }
    }

    private void dueAtADay() {
        sentences.test("Promise 20", "How many places are due at a day (0 .. 10000): never counted, or no fewer days before"
                + " than their class's cycle.");
        CountRounds full = Scenes.withPlaces(new int[20]);
        checks.same("none was counted, first day", full.due(0), 20);
        checks.same("none was counted, last day", full.due(10000), 20);
        for (int day : new int[] {-1, 10001, Integer.MIN_VALUE, Integer.MAX_VALUE}) {
            checks.refused("day " + day, IAE, () -> full.due(day));
        }
        checks.same("no place", new CountRounds().due(0), 0);
        int[][] cycles = {{0, 1}, {0, 30}, {0, 1000}, {5000, 1}, {5000, 1000}, {9000, 1000}, {9999, 1}};
        for (int[] c : cycles) {
            CountRounds x = Scenes.withPlaces(0);
            x.day(c[0]);
            Scenes.countOne(x, 0, 0);
            x.cycle(0, c[1], 0);
            checks.same("on the day itself", x.due(c[0]), 0);
            checks.same("on a day before", x.due(0), 0);
            checks.same("one day too few", x.due(c[0] + c[1] - 1), 0);
            checks.same("just as many days", x.due(c[0] + c[1]), 1);
            checks.same("on the last day", x.due(10000), 1);
        }
        CountRounds late = Scenes.withPlaces(0);
        late.day(9001);
        Scenes.countOne(late, 0, 0);
        late.cycle(0, 1000, 0);
        checks.same("not before the last day is over", late.due(10000), 0);
    }

    private void bookedOfAGood() {
        sentences.test("Promise 21", "What is booked of a good at a place.");
        CountRounds x = Scenes.withPlaces(new int[20]);
        x.stock(0, 0, 1);
        x.stock(19, 5, 1000000);
        checks.same("the first", x.booked(0, 0), 1);
        checks.same("the last", x.booked(19, 5), 1000000);
        checks.same("nothing", x.booked(19, 0), 0);
        for (int place : new int[] {-1, 20, Integer.MIN_VALUE, Integer.MAX_VALUE}) {
            checks.refused("place " + place, NSE, () -> x.booked(place, 0));
        }
        for (int good : new int[] {-1, 6, Integer.MIN_VALUE, Integer.MAX_VALUE}) {
            checks.refused("good " + good, IAE, () -> x.booked(0, good));
        }
    }

    private void toldOfACount() {
        sentences.test("Promise 22", "Of a count 0 its state, 1 how many places it has, 2 how many findings were told of it,"
                + " second ones too;");
        int[] sizes = {1, 20};
        for (int places : sizes) {
            CountRounds x = Scenes.chosen(places);
            told("chosen", x, 0, places, 0);
            x.freeze(1);
            told("frozen", x, 1, places, 0);
            for (int line = 0; line < places * 6; line++) {
                x.found(1, line / 6, line % 6, 0, 0);
            }
            told("first ones", x, 1, places, places * 6);
            for (int line = 0; line < places * 6; line++) {
                x.found(1, line / 6, line % 6, 0, 1);
            }
            told("second ones too", x, 1, places, places * 12);
            x.found(1, 0, 0, 0, 0);
            x.found(1, 0, 0, 0, 2);
            told("those that are refused not", x, 1, places, places * 12);
            x.close(1);
            told("ended", x, 2, places, places * 12);
        }
    }

    private void told(String when, CountRounds x, int state, int places, int findings) {
        checks.same(when + ": state", x.told(1, 0), state);
        checks.same(when + ": places", x.told(1, 1), places);
        checks.same(when + ": findings", x.told(1, 2), findings);
    }

    private void toldPlaces() {
        sentences.test("Promise 22", "10 and up: its places in their order (-1 if it has not so many).");
        for (int places : new int[] {1, 2, 19, 20}) {
            CountRounds x = Scenes.chosen(places);
            for (int i = 0; i < places; i++) {
                checks.same("place " + i, x.told(1, 10 + i), i);
            }
            for (int what : new int[] {10 + places, 30, 31, 1000, Integer.MAX_VALUE}) {
                checks.same("it has not so many: " + what, x.told(1, what), -1);
            }
        }
    }

    private void toldNoSuch() {
        sentences.test("Promise 22", "NoSuchElementException; IllegalArgumentException for another what.");
        CountRounds x = Scenes.chosen(1);
        for (int what : new int[] {3, 4, 5, 6, 7, 8, 9, -1, -10, Integer.MIN_VALUE}) {
            checks.refused("what " + what, IAE, () -> x.told(1, what));
        }
        for (int count : new int[] {0, -1, 2, 20, 21, Integer.MIN_VALUE, Integer.MAX_VALUE}) {
            for (int what : new int[] {0, 2, 9, 10, Integer.MAX_VALUE}) {
                checks.refused("count " + count + ", what " + what, NSE, () -> x.told(count, what));
            }
        }
    }

    private void counts() {
        sentences.test("Promise 23", "0 places, 1 moves, 2 counts, 3 the day, 4 open moves; -1 for another what.");
        CountRounds x = Scenes.withPlaces(new int[20]);
        x.stock(0, 0, 60);
        for (int move = 1; move <= 60; move++) {
            x.move(0, 1, 0, 1);
            checks.same("moves", x.count(1), move);
            checks.same("open moves", x.count(4), move);
        }
        for (int move = 1; move <= 60; move++) {
            x.end(move);
            checks.same("open moves left", x.count(4), 60 - move);
        }
        for (int count = 1; count <= 20; count++) {
            x.round(0, 1, 0);
            checks.same("counts", x.count(2), count);
        }
        x.day(10000);
        int[] due = {20, 60, 20, 10000, 0};
        for (int what = 0; what < 5; what++) {
            checks.same("count " + what, x.count(what), due[what]);
        }
        for (int what : new int[] {-1, 5, 6, 10, Integer.MIN_VALUE, Integer.MAX_VALUE}) {
            checks.same("count " + what, x.count(what), -1);
        }
    }

    private void notPromised() {
        sentences.noBoundary("Not promised", "How the state is held inside the object is free, as are the speed of each call,"
                + " the text of toString and the behaviour of equals and hashCode. Use of one object from several threads at"
                + " once is not promised to be safe. Nothing is promised beyond the answers and state changes described"
                + " above, and nothing about an object after its 512th call.");
    }
}
