import java.util.NoSuchElementException;

/** The boundary cases that promises 1 to 10 name: a new object, places, settings, the day and moves. */
final class WarehouseBoundaries {
    private static final Class<NoSuchElementException> NSE = NoSuchElementException.class;
    private static final Class<IllegalArgumentException> IAE = IllegalArgumentException.class;
    private static final Class<IllegalStateException> ISE = IllegalStateException.class;

    private final Checks checks;
    private final Sentences sentences;

    WarehouseBoundaries(Checks checks, Sentences sentences) {
        this.checks = checks;
        this.sentences = sentences;
    }

    void all() {
        nothingThere();
        aPlaceWithNothingBooked();
        stockFromNowOn();
        cycleAndTolerance();
        aPersonsRight();
        settings();
        days();
        laterDays();
        movesOfOneToAMillion();
        movesToTheSamePlace();
        movesOfMoreThanIsBooked();
        endingAMove();
        endingAnEndedMove();
        endingBeyondTheMost();
        movesOpenAtAPlace();
    }

    private void nothingThere() {
        sentences.test("Promise 1", "Nothing there; day 0.");
        CountRounds x = new CountRounds();
        for (int what = 0; what < 5; what++) {
            checks.same("count " + what, x.count(what), 0);
        }
        checks.same("none is due", x.due(10000), 0);
        checks.refused("no place", NSE, () -> x.booked(0, 0));
        checks.refused("no move", NSE, () -> x.end(1));
        checks.refused("no count", NSE, () -> x.told(1, 0));
        checks.refused("nothing to count", ISE, () -> x.round(-1, 20, 0));
        checks.refused("nothing counted", ArithmeticException.class, () -> x.share(1));
        x.day(0);
        checks.same("the day", x.count(3), 0);
        CountRounds busy = Scenes.differing(5, 4);
        busy.day(9);
        checks.same("another object has its own places", new CountRounds().count(0), 0);
        checks.same("and its own day", new CountRounds().count(3), 0);
        checks.same("day 0 is the day of a first count", lastOfAFirstCount(), 0);
    }

    private static int lastOfAFirstCount() {
        CountRounds x = Scenes.withPlaces(0);
        Scenes.countOne(x, 0, 0);
        return x.last(0);
    }

    private void aPlaceWithNothingBooked() {
        sentences.test("Promise 2", "A place of a class, with nothing booked: its number.");
        CountRounds x = new CountRounds();
        for (int number = 0; number < 20; number++) {
            checks.same("its number", x.place(number % 3), number);
            for (int good = 0; good < 6; good++) {
                checks.same("nothing booked", x.booked(number, good), 0);
            }
            x.stock(number, number % 6, 1000000);
        }
        for (int kind = 0; kind < 3; kind++) {
            x.round(kind, 20, 0);
            checks.same("places of class " + kind, x.told(kind + 1, 1), kind == 2 ? 6 : 7);
            checks.same("the first of class " + kind, x.told(kind + 1, 10), kind);
        }
        CountRounds late = Scenes.chosen(2);
        checks.same("made while there is a count", late.place(0), 2);
        checks.same("is not in it", late.told(1, 12), -1);
        checks.same("and free for another", late.told(late.round(0, 20, 0), 10), 2);
    }

    private void stockFromNowOn() {
        sentences.test("Promise 3", "So many pieces of a good are booked at a place from now on.");
        CountRounds x = Scenes.withPlaces(0, 0);
        int[] many = {1000000, 0, 1, 999999, 1};
        for (int n : many) {
            x.stock(1, 5, n);
            checks.same("booked, not added", x.booked(1, 5), n);
        }
        checks.same("another good", x.booked(1, 4), 0);
        checks.same("another place", x.booked(0, 5), 0);
        checks.refused("-1", IAE, () -> x.stock(1, 5, -1));
        checks.refused("1000001", IAE, () -> x.stock(1, 5, 1000001));
        checks.same("as before", x.booked(1, 5), 1);
        x.move(1, 0, 5, 1);
        x.stock(1, 5, 7);
        x.stock(0, 5, 2);
        x.end(1);
        checks.same("stocked while a move is open", x.booked(1, 5), 7);
        checks.same("a move comes to it", x.booked(0, 5), 3);
    }

    private void cycleAndTolerance() {
        sentences.test("Promise 4", "A class's cycle and tolerance.");
        CountRounds x = Scenes.withPlaces(0, 1, 2);
        for (int kind = 0; kind < 3; kind++) {
            Scenes.countOne(x, kind, 0);
        }
        x.cycle(0, 1, 1000);
        x.cycle(2, 1000, 0);
        checks.same("day 0", x.due(0), 0);
        checks.same("day 1", x.due(1), 1);
        checks.same("day 29", x.due(29), 1);
        checks.same("day 30", x.due(30), 2);
        checks.same("day 999", x.due(999), 2);
        checks.same("day 1000", x.due(1000), 3);
        int[][] wrong = {{-1, 5, 5}, {3, 5, 5}, {0, 0, 5}, {0, 1001, 5}, {0, 5, -1}, {0, 5, 1001}, {0, -1, -1},
            {Integer.MAX_VALUE, 5, 5}, {Integer.MIN_VALUE, 5, 5}, {0, Integer.MAX_VALUE, 5}, {0, 5, Integer.MAX_VALUE},
            {0, 5, Integer.MIN_VALUE}};
        for (int[] w : wrong) {
            checks.refused("cycle " + w[0] + " " + w[1] + " " + w[2], IAE, () -> x.cycle(w[0], w[1], w[2]));
        }
        checks.same("day 0 as before", x.due(0), 0);
        checks.same("day 4 as before", x.due(4), 1);
        Scenes.countOne(x, 0, 1000);
        checks.same("the tolerance as before", x.share(0), 1);
        checks.same("and all right", x.share(1), 1);
    }

    private void aPersonsRight() {
        sentences.test("Promise 5", "A person's right.");
        int[][] wrong = {{-1, 6}, {6, 6}, {0, -1}, {0, 1000001}, {Integer.MIN_VALUE, 6}, {Integer.MAX_VALUE, 6},
            {0, Integer.MIN_VALUE}, {0, Integer.MAX_VALUE}};
        for (int[] w : wrong) {
            CountRounds x = Scenes.differing(10, 4);
            x.right(0, 5);
            checks.refused("right " + w[0] + " " + w[1], IAE, () -> x.right(w[0], w[1]));
            checks.holds("no right came of it", !x.correct(1, 0, 0));
            x.right(0, 6);
            checks.holds("until one does", x.correct(1, 0, 0));
        }
        CountRounds x = Scenes.differing(10, 4);
        x.right(5, 6);
        x.right(0, 5);
        checks.holds("the lower one's own", !x.correct(1, 0, 0));
        CountRounds y = Scenes.differing(10, 4);
        y.right(0, 5);
        y.right(5, 6);
        checks.holds("the higher one's own", y.correct(1, 0, 5));
        CountRounds changed = Scenes.differing(10, 4);
        changed.right(5, 6);
        changed.right(5, 5);
        checks.holds("the later one holds", !changed.correct(1, 0, 5));
    }

    private void settings() {
        sentences.test("Promise 6", "0 or 1, as counts are frozen.");
        int[] wrong = {-1, 2, Integer.MIN_VALUE, Integer.MAX_VALUE};
        for (int before = 0; before < 2; before++) {
            CountRounds x = Scenes.withPlaces(0, 0);
            x.stock(0, 0, 1);
            x.move(0, 1, 0, 1);
            x.round(0, 2, 0);
            x.setting(before);
            for (int setting : wrong) {
                checks.refused("setting " + setting, IAE, () -> x.setting(setting));
            }
            checks.same("frozen as " + before, x.freeze(1), before == 0 ? 0 : 2);
        }
    }

    private void days() {
        sentences.test("Promise 7", "It is this day (0 .. 10000).");
        CountRounds x = new CountRounds();
        int[] days = {0, 1, 9999, 10000, 10000};
        for (int day : days) {
            x.day(day);
            checks.same("the day", x.count(3), day);
        }
        for (int now : new int[] {0, 10000}) {
            CountRounds y = new CountRounds();
            y.day(now);
            for (int day : new int[] {-1, 10001, Integer.MIN_VALUE, Integer.MAX_VALUE}) {
                checks.refused("day " + day, IAE, () -> y.day(day));
            }
            checks.same("as before", y.count(3), now);
        }
    }

    private void laterDays() {
        sentences.test("Promise 7", "IllegalStateException: it was a later one.");
        for (int now : new int[] {1, 500, 10000}) {
            CountRounds x = new CountRounds();
            x.day(now);
            checks.refused("the day before " + now, ISE, () -> x.day(now - 1));
            checks.refused("the first day", ISE, () -> x.day(0));
            checks.same("as before", x.count(3), now);
            x.day(now);
            checks.same("the same day again", x.count(3), now);
        }
    }

    private void movesOfOneToAMillion() {
        sentences.test("Promise 8", "A move of 1 .. 1000000 pieces is open: its number.");
        CountRounds x = Scenes.withPlaces(0, 0);
        x.stock(0, 0, 1000000);
        for (int n : new int[] {0, -1, 1000001, Integer.MIN_VALUE, Integer.MAX_VALUE}) {
            checks.refused("of " + n, IAE, () -> x.move(0, 1, 0, n));
        }
        checks.same("none is made", x.count(1), 0);
        checks.same("of the most", x.move(0, 1, 0, 1000000), 1);
        checks.same("all gone", x.booked(0, 0), 0);
        x.stock(0, 0, 1);
        checks.same("of one", x.move(0, 1, 0, 1), 2);
        checks.same("both are open", x.count(4), 2);
    }

    private void movesToTheSamePlace() {
        sentences.test("Promise 8", "IllegalArgumentException also if the places are the same;");
        CountRounds x = Scenes.withPlaces(new int[20]);
        for (int place = 0; place < 20; place += 19) {
            int at = place;
            x.stock(place, 0, 5);
            checks.refused("from " + place + " to it", IAE, () -> x.move(at, at, 0, 5));
            checks.same("as before", x.booked(place, 0), 5);
        }
        checks.same("none is made", x.count(1), 0);
        checks.same("to the other one", x.move(0, 19, 0, 5), 1);
        checks.same("and back", x.move(19, 0, 0, 5), 2);
    }

    private void movesOfMoreThanIsBooked() {
        sentences.test("Promise 8", "IllegalStateException: not so many are booked.");
        CountRounds x = Scenes.withPlaces(0, 0);
        x.stock(0, 1, 1000000);
        x.stock(1, 0, 1000000);
        checks.refused("none is booked", ISE, () -> x.move(0, 1, 0, 1));
        x.stock(0, 0, 4);
        checks.refused("one too many", ISE, () -> x.move(0, 1, 0, 5));
        checks.refused("the most", ISE, () -> x.move(0, 1, 0, 1000000));
        checks.same("as before", x.booked(0, 0), 4);
        checks.same("all that are booked", x.move(0, 1, 0, 4), 1);
        checks.refused("none is left", ISE, () -> x.move(0, 1, 0, 1));
        CountRounds y = Scenes.withPlaces(0, 0);
        y.stock(0, 0, 4);
        y.move(0, 1, 0, 4);
        checks.refused("what has not come yet", ISE, () -> y.move(1, 0, 0, 1));
        y.end(1);
        checks.same("what has come", y.move(1, 0, 0, 4), 2);
    }

    private void endingAMove() {
        sentences.test("Promise 9", "A move is ended.");
        CountRounds x = Scenes.withPlaces(0, 0);
        x.stock(0, 5, 3);
        x.move(0, 1, 5, 1);
        x.move(0, 1, 5, 2);
        for (int move : new int[] {0, -1, 3, 61, Integer.MIN_VALUE, Integer.MAX_VALUE}) {
            checks.refused("move " + move, NSE, () -> x.end(move));
        }
        checks.same("both are open", x.count(4), 2);
        x.end(2);
        checks.same("its pieces have come", x.booked(1, 5), 2);
        checks.same("one is open", x.count(4), 1);
        x.end(1);
        checks.same("all have come", x.booked(1, 5), 3);
        checks.same("none is open", x.count(4), 0);
        checks.same("there are still two", x.count(1), 2);
    }

    private void endingAnEndedMove() {
        sentences.test("Promise 9", "IllegalStateException: it is,");
        CountRounds x = Scenes.withPlaces(0, 0);
        x.stock(0, 0, 3);
        x.move(0, 1, 0, 3);
        x.end(1);
        checks.refused("again", ISE, () -> x.end(1));
        checks.refused("and again", ISE, () -> x.end(1));
        checks.same("they came once", x.booked(1, 0), 3);
        checks.same("none is open", x.count(4), 0);
    }

    private void endingBeyondTheMost() {
        sentences.test("Promise 9", "or more than 1000000 would be booked.");
        int[] moved = {1, 500000, 1000000};
        for (int n : moved) {
            CountRounds x = Scenes.withPlaces(0, 0);
            x.stock(0, 0, n);
            x.move(0, 1, 0, n);
            x.stock(1, 1, 1000000);
            x.stock(1, 0, 1000001 - n);
            checks.refused("one too many with " + n, ISE, () -> x.end(1));
            checks.same("as before", x.booked(1, 0), 1000001 - n);
            checks.same("open still", x.moves(1), 1);
            x.stock(1, 0, 1000000 - n);
            x.end(1);
            checks.same("just as many", x.booked(1, 0), 1000000);
        }
    }

    private void movesOpenAtAPlace() {
        sentences.test("Promise 10", "How many moves are open at a place.");
        CountRounds x = Scenes.withPlaces(0, 0, 0);
        for (int place = 0; place < 3; place++) {
            checks.same("none at first", x.moves(place), 0);
        }
        x.stock(0, 0, 60);
        x.stock(1, 0, 60);
        for (int i = 1; i <= 60; i++) {
            x.move(i % 2, 1 - i % 2, 0, 1);
            checks.same("at the one", x.moves(0), i);
            checks.same("at the other", x.moves(1), i);
        }
        checks.same("at a third", x.moves(2), 0);
        for (int i = 1; i <= 60; i++) {
            x.end(i);
        }
        checks.same("none at the end", x.moves(0), 0);
        checks.same("none at the other", x.moves(1), 0);
        for (int place : new int[] {-1, 3, 20, Integer.MIN_VALUE, Integer.MAX_VALUE}) {
            checks.refused("at place " + place, NSE, () -> x.moves(place));
        }
    }
}
