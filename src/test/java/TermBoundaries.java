import java.util.NoSuchElementException;

/** The sections 'What it is' and 'Terms' up to counts: how many there may be of a thing, and the ranges. */
final class TermBoundaries {
    private static final String TERMS = "Terms";
    private static final int[] NO_KINDS = {-1, 3, Integer.MIN_VALUE, Integer.MAX_VALUE};
    private static final int[] NO_GOODS = {-1, 6, Integer.MIN_VALUE, Integer.MAX_VALUE};
    private static final int[] NO_PERSONS = {-1, 6, Integer.MIN_VALUE, Integer.MAX_VALUE};
    private static final int[] NO_PIECES = {-1, 1000001, Integer.MIN_VALUE, Integer.MAX_VALUE};

    private final Checks checks;
    private final Sentences sentences;

    TermBoundaries(Checks checks, Sentences sentences) {
        this.checks = checks;
        this.sentences = sentences;
    }

    void all() {
        sentences.noBoundary("What it is", "Counting a warehouse: rounds of places by class and rank or by a seed, what is"
                + " booked when a count is frozen, blind findings by persons, second ones by others, differences,"
                + " corrections within rights or by two, tolerances, moves that are open meanwhile, days that are due,"
                + " accuracy as an exact share.");
        theLastOf512Calls();
        twentyPlaces();
        numbersOfNoPlace();
        threeClasses();
        sixGoods();
        sixPersons();
        bookedPieces();
        cycles();
        tolerances();
        rights();
        sixtyMoves();
        numbersOfNoMove();
        openAtBothPlaces();
        twentyCounts();
        numbersOfNoCount();
        oneCountThatIsNotEnded();
    }

    private void theLastOf512Calls() {
        sentences.test("What it is", "An object is used for at most 512 calls after it has been made;"
                + " what later calls answer is free.");
        checks.same("an answer", afterCalls(511).booked(0, 0), 511);
        checks.same("a place", afterCalls(511).place(0), 1);
        checks.same("a count", afterCalls(511).round(0, 20, 0), 1);
        checks.refused("a refusal", NoSuchElementException.class, () -> afterCalls(511).moves(1));
        CountRounds x = afterCalls(509);
        x.round(0, 1, 0);
        x.freeze(1);
        checks.same("a finding", x.found(1, 0, 0, 1, 0), 1);
    }

    /** An object that was called so often: a place, and its stock set to the number of each further call. */
    private static CountRounds afterCalls(int calls) {
        CountRounds x = Scenes.withPlaces(0);
        for (int call = 2; call <= calls; call++) {
            x.stock(0, 0, call);
        }
        return x;
    }

    private void twentyPlaces() {
        sentences.test(TERMS, "PLACES 0, 1, .. (at most 20)");
        CountRounds x = new CountRounds();
        for (int number = 0; number < 20; number++) {
            checks.same("place", x.place(0), number);
        }
        checks.refused("a twenty-first", UnsupportedOperationException.class, () -> x.place(0));
        checks.refused("a twenty-first again", UnsupportedOperationException.class, () -> x.place(2));
        checks.same("places", x.count(0), 20);
        x.stock(19, 5, 3);
        checks.same("the twentieth is as good as any", x.booked(19, 5), 3);
        checks.same("all twenty in one count", x.round(-1, 20, 0), 1);
        checks.same("the twentieth is in it", x.told(1, 29), 19);
    }

    private void numbersOfNoPlace() {
        sentences.test(TERMS, "PLACES 0, 1, .. (at most 20)");
        int[] made = {0, 1, 19, 20};
        for (int places : made) {
            CountRounds x = Scenes.withPlaces(new int[places]);
            if (places > 0) {
                x.round(0, 20, 0);
                x.freeze(1);
            }
            int[] wrong = {-1, places, 20, Integer.MIN_VALUE, Integer.MAX_VALUE};
            for (int place : wrong) {
                noPlace(x, place);
            }
        }
    }

    private void noPlace(CountRounds x, int place) {
        String of = " of place " + place + " of " + x.count(0);
        checks.refused("stock" + of, NoSuchElementException.class, () -> x.stock(place, 0, 0));
        checks.refused("move from" + of, NoSuchElementException.class, () -> x.move(place, 0, 0, 1));
        checks.refused("move to" + of, NoSuchElementException.class, () -> x.move(0, place, 0, 1));
        checks.refused("moves" + of, NoSuchElementException.class, () -> x.moves(place));
        checks.refused("found" + of, NoSuchElementException.class, () -> x.found(1, place, 0, 0, 0));
        checks.refused("second" + of, NoSuchElementException.class, () -> x.second(1, place, 0));
        checks.refused("last" + of, NoSuchElementException.class, () -> x.last(place));
        checks.refused("booked" + of, NoSuchElementException.class, () -> x.booked(place, 0));
    }

    private void threeClasses() {
        sentences.test(TERMS, "are of CLASSES 0 .. 2;");
        CountRounds x = new CountRounds();
        for (int kind : NO_KINDS) {
            checks.refused("place " + kind, IllegalArgumentException.class, () -> x.place(kind));
            checks.refused("cycle " + kind, IllegalArgumentException.class, () -> x.cycle(kind, 1, 0));
        }
        for (int kind = 0; kind < 3; kind++) {
            checks.same("place " + kind, x.place(kind), kind);
            x.cycle(kind, 1, 0);
        }
        for (int kind = 0; kind < 3; kind++) {
            checks.same("round " + kind, x.round(kind, 20, 0), kind + 1);
            checks.same("its only place", x.told(kind + 1, 10), kind);
            checks.same("no other", x.told(kind + 1, 1), 1);
        }
    }

    private void sixGoods() {
        sentences.test(TERMS, "GOODS are 0 .. 5,");
        CountRounds x = Scenes.withPlaces(0, 1);
        for (int good = 0; good < 6; good++) {
            x.stock(0, good, 10 + good);
        }
        for (int good = 0; good < 6; good++) {
            checks.same("booked " + good, x.booked(0, good), 10 + good);
            x.move(0, 1, good, 1 + good);
            checks.same("gone " + good, x.booked(0, good), 9);
            x.end(good + 1);
            checks.same("come " + good, x.booked(1, good), 1 + good);
        }
        x.round(0, 1, 0);
        x.freeze(1);
        for (int good = 0; good < 6; good++) {
            checks.same("found " + good, x.found(1, 0, good, 8, 0), 1);
            checks.holds("second " + good, x.second(1, 0, good));
        }
        for (int good : NO_GOODS) {
            checks.refused("stock " + good, IllegalArgumentException.class, () -> x.stock(0, good, 1));
            checks.refused("move " + good, IllegalArgumentException.class, () -> x.move(0, 1, good, 1));
            checks.refused("found " + good, IllegalArgumentException.class, () -> x.found(1, 0, good, 1, 1));
            checks.refused("second " + good, IllegalArgumentException.class, () -> x.second(1, 0, good));
            checks.refused("booked " + good, IllegalArgumentException.class, () -> x.booked(0, good));
        }
    }

    private void sixPersons() {
        sentences.test(TERMS, "PERSONS 0 .. 5.");
        for (int person = 0; person < 6; person++) {
            CountRounds x = Scenes.withPlaces(0);
            x.round(0, 1, 0);
            x.freeze(1);
            checks.same("found by " + person, x.found(1, 0, 0, 4, person), 1);
            x.close(1);
            checks.same("the finder", x.differ(1, 0, 3), person);
            checks.holds("asked by " + person, !x.correct(1, 0, person));
            checks.same("the asker", x.differ(1, 0, 5), person);
            x.right(person, 4);
            checks.holds("corrected by " + person, x.correct(1, 0, person));
        }
        CountRounds x = Scenes.differing(0, 1);
        x.round(0, 1, 0);
        x.freeze(2);
        for (int person : NO_PERSONS) {
            checks.refused("right of " + person, IllegalArgumentException.class, () -> x.right(person, 1));
            checks.refused("found by " + person, IllegalArgumentException.class, () -> x.found(2, 0, 0, 1, person));
            checks.refused("correct by " + person, IllegalArgumentException.class, () -> x.correct(1, 0, person));
        }
    }

    private void bookedPieces() {
        sentences.test(TERMS, "BOOKED of a place and good are 0 .. 1000000 pieces.");
        CountRounds x = Scenes.withPlaces(0, 0);
        x.stock(0, 0, 1000000);
        checks.same("the most", x.booked(0, 0), 1000000);
        for (int n : NO_PIECES) {
            checks.refused("stock " + n, IllegalArgumentException.class, () -> x.stock(0, 0, n));
        }
        checks.same("as before", x.booked(0, 0), 1000000);
        x.move(0, 1, 0, 1000000);
        checks.same("all gone", x.booked(0, 0), 0);
        x.stock(1, 0, 1);
        checks.refused("one over the most", IllegalStateException.class, () -> x.end(1));
        x.stock(1, 0, 0);
        x.end(1);
        checks.same("the most has come", x.booked(1, 0), 1000000);
        x.stock(1, 0, 0);
        checks.same("the least", x.booked(1, 0), 0);
        CountRounds up = Scenes.differing(0, 1000000);
        up.right(0, 1000000);
        checks.holds("corrected from the least to the most", up.correct(1, 0, 0));
        checks.same("the most by correcting", up.booked(0, 0), 1000000);
        CountRounds down = Scenes.differing(1000000, 0);
        down.right(0, 1000000);
        checks.holds("corrected from the most to the least", down.correct(1, 0, 0));
        checks.same("the least by correcting", down.booked(0, 0), 0);
    }

    private void cycles() {
        sentences.test(TERMS, "Each class has a CYCLE (1 .. 1000 days, 30 at first)");
        for (int kind = 0; kind < 3; kind++) {
            int of = kind;
            CountRounds x = Scenes.withPlaces(kind);
            Scenes.countOne(x, kind, 0);
            becomesDue(x, 30);
            x.cycle(kind, 1, 0);
            becomesDue(x, 1);
            x.cycle(kind, 1000, 0);
            becomesDue(x, 1000);
            int[] wrong = {0, -1, 1001, Integer.MIN_VALUE, Integer.MAX_VALUE};
            for (int days : wrong) {
                checks.refused("cycle of " + days, IllegalArgumentException.class, () -> x.cycle(of, days, 0));
            }
            becomesDue(x, 1000);
        }
    }

    private void becomesDue(CountRounds x, int day) {
        checks.same("not due the day before " + day, x.due(day - 1), 0);
        checks.same("due on day " + day, x.due(day), 1);
    }

    private void tolerances() {
        sentences.test(TERMS, "and a TOLERANCE (0 .. 1000 pieces, 0 at first),");
        for (int kind = 0; kind < 3; kind++) {
            int of = kind;
            CountRounds x = Scenes.withPlaces(kind);
            x.stock(0, 0, 5000);
            x.stock(0, 1, 5000);
            x.round(kind, 1, 0);
            x.freeze(1);
            x.found(1, 0, 0, 4999, 0);
            checks.holds("one piece is beyond it at first", x.second(1, 0, 0));
            x.found(1, 0, 1, 5000, 0);
            checks.holds("none is not", !x.second(1, 0, 1));
            x.found(1, 0, 2, 1000, 0);
            x.found(1, 0, 3, 1001, 0);
            x.cycle(kind, 30, 1000);
            checks.holds("1000 are within the greatest", !x.second(1, 0, 2));
            checks.holds("1001 are beyond it", x.second(1, 0, 3));
            for (int pieces : new int[] {-1, 1001, Integer.MIN_VALUE, Integer.MAX_VALUE}) {
                checks.refused("tolerance " + pieces, IllegalArgumentException.class, () -> x.cycle(of, 30, pieces));
            }
            checks.holds("1000 are within it still", !x.second(1, 0, 2));
            checks.holds("1001 are beyond it still", x.second(1, 0, 3));
            x.cycle(kind, 30, 0);
            checks.holds("one piece is beyond the least", x.second(1, 0, 0));
        }
    }

    private void rights() {
        sentences.test(TERMS, "each person a RIGHT (0 .. 1000000 pieces, 0 at first).");
        for (int person = 0; person < 6; person++) {
            int of = person;
            checks.holds("one piece is beyond it at first", !Scenes.differing(0, 1).correct(1, 0, person));
            CountRounds x = Scenes.differing(0, 1000000);
            x.right(person, 1000000);
            for (int n : NO_PIECES) {
                checks.refused("right " + n, IllegalArgumentException.class, () -> x.right(of, n));
            }
            checks.holds("the greatest is for the most pieces", x.correct(1, 0, person));
            CountRounds y = Scenes.differing(0, 1);
            y.right(person, 1000000);
            y.right(person, 0);
            checks.holds("none again", !y.correct(1, 0, person));
        }
        CountRounds beyond = Scenes.withPlaces(0, 1);
        beyond.stock(1, 0, 1);
        beyond.move(1, 0, 0, 1);
        beyond.stock(0, 0, 1000000);
        beyond.setting(1);
        Scenes.countOne(beyond, 0, 0);
        beyond.right(0, 1000000);
        checks.same("a difference greater than any right", beyond.differ(1, 0, 2), -1000001);
        checks.holds("is asked for", !beyond.correct(1, 0, 0));
    }

    private void sixtyMoves() {
        sentences.test(TERMS, "MOVES (numbered 1, 2, .., at most 60) bring pieces of a good from a place to another one:"
                + " open at first, when the pieces go from the one; then ENDED, when they come to the other.");
        CountRounds x = Scenes.withPlaces(0, 0);
        x.stock(0, 0, 100);
        for (int number = 1; number <= 60; number++) {
            checks.same("move", x.move(0, 1, 0, 1), number);
        }
        checks.same("gone from the one", x.booked(0, 0), 40);
        checks.same("not yet come", x.booked(1, 0), 0);
        checks.refused("a sixty-first", UnsupportedOperationException.class, () -> x.move(0, 1, 0, 1));
        checks.same("nothing went", x.booked(0, 0), 40);
        for (int number = 60; number >= 1; number--) {
            x.end(number);
            checks.same("come to the other", x.booked(1, 0), 61 - number);
        }
        checks.refused("ended ones leave no room", UnsupportedOperationException.class, () -> x.move(0, 1, 0, 1));
        checks.refused("back neither", UnsupportedOperationException.class, () -> x.move(1, 0, 0, 1));
        checks.same("moves", x.count(1), 60);
    }

    private void numbersOfNoMove() {
        sentences.test(TERMS, "MOVES (numbered 1, 2, .., at most 60)");
        int[] made = {0, 1, 59, 60};
        for (int moves : made) {
            CountRounds x = Scenes.withPlaces(0, 0);
            x.stock(0, 0, 60);
            for (int i = 0; i < moves; i++) {
                x.move(0, 1, 0, 1);
            }
            int[] wrong = {0, -1, moves + 1, 61, Integer.MIN_VALUE, Integer.MAX_VALUE};
            for (int move : wrong) {
                checks.refused("end " + move + " of " + moves, NoSuchElementException.class, () -> x.end(move));
            }
            checks.same("all are open", x.count(4), moves);
        }
    }

    private void openAtBothPlaces() {
        sentences.test(TERMS, "A move is open AT both places.");
        CountRounds x = Scenes.withPlaces(0, 1, 2);
        x.stock(1, 0, 5);
        x.move(1, 0, 0, 5);
        checks.same("at the one", x.moves(1), 1);
        checks.same("at the other", x.moves(0), 1);
        checks.same("at a third", x.moves(2), 0);
        for (int kind = 0; kind < 3; kind++) {
            x.round(kind, 1, 0);
        }
        checks.same("a count of the other waits", x.freeze(1), 0);
        checks.same("a count of the one waits", x.freeze(2), 0);
        checks.same("a count of the third does not", x.freeze(3), 1);
        x.end(1);
        checks.same("ended, at the one", x.moves(1), 0);
        checks.same("ended, at the other", x.moves(0), 0);
    }

    private void twentyCounts() {
        sentences.test(TERMS, "A COUNT (numbered 1, 2, .., at most 20) has places; it is 0 CHOSEN, 1 FROZEN, 2 ENDED.");
        CountRounds x = Scenes.withPlaces(0);
        for (int number = 1; number <= 20; number++) {
            checks.same("count", x.round(0, 1, 0), number);
            checks.same("it has a place", x.told(number, 1), 1);
            checks.same("chosen", x.told(number, 0), 0);
            x.freeze(number);
            checks.same("frozen", x.told(number, 0), 1);
            x.close(number);
            checks.same("ended", x.told(number, 0), 2);
        }
        checks.refused("a twenty-first", UnsupportedOperationException.class, () -> x.round(0, 1, 0));
        checks.refused("a twenty-first by seed", UnsupportedOperationException.class, () -> x.round(-1, 20, 9));
        checks.same("counts", x.count(2), 20);
        CountRounds open = Scenes.withPlaces(new int[20]);
        for (int number = 1; number <= 20; number++) {
            checks.same("twenty that are not ended", open.round(0, 1, 0), number);
        }
        checks.same("the last one's place", open.told(20, 10), 19);
    }

    private void numbersOfNoCount() {
        sentences.test(TERMS, "A COUNT (numbered 1, 2, .., at most 20)");
        int[] made = {0, 1, 19, 20};
        for (int counts : made) {
            CountRounds x = Scenes.withPlaces(new int[20]);
            for (int i = 0; i < counts; i++) {
                x.round(0, 1, 0);
            }
            int[] wrong = {0, -1, counts + 1, 21, Integer.MIN_VALUE, Integer.MAX_VALUE};
            for (int count : wrong) {
                noCount(x, count);
            }
        }
    }

    private void noCount(CountRounds x, int count) {
        String of = " of count " + count + " of " + x.count(2);
        checks.refused("freeze" + of, NoSuchElementException.class, () -> x.freeze(count));
        checks.refused("found" + of, NoSuchElementException.class, () -> x.found(count, 0, 0, 0, 0));
        checks.refused("second" + of, NoSuchElementException.class, () -> x.second(count, 0, 0));
        checks.refused("close" + of, NoSuchElementException.class, () -> x.close(count));
        checks.refused("differ" + of, NoSuchElementException.class, () -> x.differ(count, 0, 0));
        checks.refused("correct" + of, NoSuchElementException.class, () -> x.correct(count, 0, 0));
        checks.refused("told" + of, NoSuchElementException.class, () -> x.told(count, 0));
        checks.refused("place told" + of, NoSuchElementException.class, () -> x.told(count, 10));
    }

    private void oneCountThatIsNotEnded() {
        sentences.test(TERMS, "A place is in one count at most that is not ENDED.");
        for (long seed = 0; seed < 2; seed++) {
            long s = seed;
            CountRounds x = Scenes.withPlaces(0, 0, 0);
            x.round(0, 2, 0);
            checks.same("the one that is left", x.told(x.round(0, 20, seed), 10), 2);
            checks.refused("both are chosen", IllegalStateException.class, () -> x.round(0, 1, s));
            x.freeze(1);
            checks.refused("one is frozen", IllegalStateException.class, () -> x.round(0, 1, s));
            x.close(1);
            x.round(0, 20, 0);
            checks.same("places of the ended one", x.told(3, 1), 2);
            checks.same("its first", x.told(3, 10), 0);
            checks.same("its second", x.told(3, 11), 1);
            checks.same("the ended one keeps them", x.told(1, 11), 1);
            checks.refused("taken anew", IllegalStateException.class, () -> x.round(0, 1, s));
        }
    }
}
