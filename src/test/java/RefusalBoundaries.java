import java.util.NoSuchElementException;
import java.util.function.Consumer;

/** The sentence of refusals: for each call which comes first, and that a refused call leaves everything as it was. */
final class RefusalBoundaries {
    private static final String NO_SUCH = "NoSuchElementException: a place, move, count or difference that there is not;";
    private static final String ARGUMENT = "IllegalArgumentException: another number outside its range;";
    private static final String STATE = "IllegalStateException: not as it is now;";
    private static final String ROOM = "UnsupportedOperationException: no room.";

    private static final Class<NoSuchElementException> NSE = NoSuchElementException.class;
    private static final Class<IllegalArgumentException> IAE = IllegalArgumentException.class;
    private static final Class<IllegalStateException> ISE = IllegalStateException.class;
    private static final Class<UnsupportedOperationException> UOE = UnsupportedOperationException.class;

    private final Checks checks;
    private final Sentences sentences;

    RefusalBoundaries(Checks checks, Sentences sentences) {
        this.checks = checks;
        this.sentences = sentences;
    }

    void all() {
        sentences.test("Terms", "REFUSALS, the first that holds:");
        firstThatHoldsOfPlaces();
        firstThatHoldsOfMoves();
        firstThatHoldsOfRounds();
        firstThatHoldsOfCounts();
        firstThatHoldsOfFindings();
        firstThatHoldsOfDifferences();
        noSuchThingLeavesAllAsItWas();
        wrongNumbersLeaveAllAsItWas();
        wrongStatesLeaveAllAsItWas();
        noRoomLeavesAllAsItWas();
        noTimesLeaveAllAsItWas();
        brokenFindingsLeaveAllAsItWas();
    }

    private void firstThatHoldsOfPlaces() {
        CountRounds full = Scenes.withPlaces(new int[20]);
        checks.refused("place: no class, no room", IAE, () -> full.place(3));
        checks.refused("place: no class, no room", IAE, () -> full.place(-1));
        checks.refused("stock: no place, no good", NSE, () -> full.stock(20, 6, 0));
        checks.refused("stock: no place, no pieces", NSE, () -> full.stock(-1, 0, 1000001));
        checks.refused("booked: no place, no good", NSE, () -> full.booked(20, -1));
        full.day(7);
        checks.refused("day: none such, and earlier", IAE, () -> full.day(-1));
    }

    private void firstThatHoldsOfMoves() {
        CountRounds x = Scenes.withPlaces(0, 0);
        firstOfMove("with room", x);
        x.stock(0, 0, 60);
        for (int i = 0; i < 60; i++) {
            x.move(0, 1, 0, 1);
        }
        firstOfMove("without room", x);
        x.stock(0, 0, 5);
        checks.refused("move: one too many, no room", ISE, () -> x.move(0, 1, 0, 6));
        checks.refused("move: no room", UOE, () -> x.move(0, 1, 0, 5));
    }

    /** None of good 0 is booked at place 0. */
    private void firstOfMove(String room, CountRounds x) {
        checks.refused(room + ": from no place, no good", NSE, () -> x.move(2, 1, 6, 1));
        checks.refused(room + ": from no place, no pieces", NSE, () -> x.move(-1, 1, 0, 0));
        checks.refused(room + ": to no place, no good", NSE, () -> x.move(0, 2, -1, 1));
        checks.refused(room + ": to no place, no pieces", NSE, () -> x.move(0, -1, 0, 1000001));
        checks.refused(room + ": to no place, none booked", NSE, () -> x.move(0, 2, 0, 1));
        checks.refused(room + ": the same, but no place", NSE, () -> x.move(2, 2, 0, 1));
        checks.refused(room + ": the same, none booked", IAE, () -> x.move(0, 0, 0, 1));
        checks.refused(room + ": no good", IAE, () -> x.move(0, 1, 6, 1));
        checks.refused(room + ": too many at all", IAE, () -> x.move(0, 1, 0, 1000001));
        checks.refused(room + ": too few at all", IAE, () -> x.move(0, 1, 0, 0));
        checks.refused(room + ": none booked", ISE, () -> x.move(0, 1, 0, 1));
    }

    private void firstThatHoldsOfRounds() {
        CountRounds x = Scenes.withPlaces(0);
        firstOfRound("with room", x);
        for (int count = 1; count <= 20; count++) {
            x.round(0, 1, 0);
            x.freeze(count);
            x.close(count);
        }
        firstOfRound("without room", x);
        checks.refused("a place, but no room", UOE, () -> x.round(0, 1, 0));
    }

    /** There is no place of class 1. */
    private void firstOfRound(String room, CountRounds x) {
        for (long seed = 0; seed < 2; seed++) {
            long s = seed;
            checks.refused(room + ": no class", IAE, () -> x.round(3, 1, s));
            checks.refused(room + ": no class", IAE, () -> x.round(-2, 1, s));
            checks.refused(room + ": no number, no place", IAE, () -> x.round(1, 0, s));
            checks.refused(room + ": no number, no place", IAE, () -> x.round(1, 21, s));
            checks.refused(room + ": no number", IAE, () -> x.round(0, 21, s));
            checks.refused(room + ": no place", ISE, () -> x.round(1, 1, s));
        }
    }

    private void firstThatHoldsOfCounts() {
        CountRounds x = Scenes.withPlaces(0, 1);
        x.round(0, 1, 0);
        checks.refused("told: no count, no what", NSE, () -> x.told(2, 3));
        checks.refused("second: no count, no good", NSE, () -> x.second(2, 0, 6));
        checks.refused("second: not in it, no good, chosen", NSE, () -> x.second(1, 1, 6));
        checks.refused("second: not in it, chosen", NSE, () -> x.second(1, 1, 0));
        checks.refused("second: no place, chosen", NSE, () -> x.second(1, 2, 0));
        checks.refused("second: no good, chosen", IAE, () -> x.second(1, 0, 6));
        checks.refused("second: chosen", ISE, () -> x.second(1, 0, 5));
        x.freeze(1);
        checks.refused("second: not in it, no good, frozen", NSE, () -> x.second(1, 1, 6));
        x.close(1);
        checks.refused("second: not in it, ended", NSE, () -> x.second(1, 1, 0));
        checks.refused("second: no good, ended", IAE, () -> x.second(1, 0, -1));
        checks.refused("second: ended", ISE, () -> x.second(1, 0, 0));
        checks.refused("share: no side, none counted", IAE, () -> x.share(2));
        checks.refused("share: no side, none counted", IAE, () -> x.share(-1));
    }

    private void firstThatHoldsOfFindings() {
        CountRounds x = Scenes.withPlaces(0, 1);
        x.round(0, 1, 0);
        checks.refused("no count, no good", NSE, () -> x.found(2, 0, 6, 0, 0));
        checks.refused("no count, no pieces", NSE, () -> x.found(0, 0, 0, -1, 0));
        checks.refused("no count, no person", NSE, () -> x.found(2, 0, 0, 0, 6));
        checks.refused("no place, no good, chosen", NSE, () -> x.found(1, 2, 6, 0, 0));
        checks.refused("no place, no pieces, chosen", NSE, () -> x.found(1, -1, 0, 1000001, 0));
        checks.refused("no place, no person, chosen", NSE, () -> x.found(1, 2, 0, 0, -1));
        checks.refused("no place, chosen", NSE, () -> x.found(1, 2, 0, 0, 0));
        checks.refused("no good, chosen", IAE, () -> x.found(1, 0, 6, 0, 0));
        checks.refused("no pieces, not in it, chosen", IAE, () -> x.found(1, 1, 0, -1, 0));
        checks.refused("no person, chosen", IAE, () -> x.found(1, 0, 0, 0, 6));
        x.freeze(1);
        checks.refused("no good, not in it", IAE, () -> x.found(1, 1, -1, 0, 0));
        checks.refused("no person, not in it", IAE, () -> x.found(1, 1, 0, 0, 6));
        x.found(1, 0, 0, 0, 0);
        checks.refused("no pieces, told already", IAE, () -> x.found(1, 0, 0, -1, 0));
        x.found(1, 0, 0, 0, 1);
        checks.refused("no pieces, two have", IAE, () -> x.found(1, 0, 0, 1000001, 2));
        checks.refused("no person, two have", IAE, () -> x.found(1, 0, 0, 0, 6));
    }

    private void firstThatHoldsOfDifferences() {
        CountRounds x = Scenes.differing(10, 4);
        checks.refused("differ: no count, no what", NSE, () -> x.differ(2, 0, 6));
        checks.refused("differ: no difference, no what", NSE, () -> x.differ(1, 1, 6));
        checks.refused("differ: no difference, no what", NSE, () -> x.differ(1, -1, -1));
        checks.refused("correct: no count, no person", NSE, () -> x.correct(0, 0, 6));
        checks.refused("correct: no difference, no person", NSE, () -> x.correct(1, 1, -1));
        x.stock(0, 0, 1);
        checks.refused("correct: no person, out of range", IAE, () -> x.correct(1, 0, 6));
        x.stock(0, 0, 9);
        x.correct(1, 0, 0);
        x.correct(1, 0, 1);
        checks.refused("correct: no person, corrected", IAE, () -> x.correct(1, 0, -1));
        checks.refused("correct: corrected, no right, none asked anew", ISE, () -> x.correct(1, 0, 0));
        x.right(5, 6);
        x.stock(0, 0, 1);
        checks.refused("correct: corrected, out of range", ISE, () -> x.correct(1, 0, 5));
    }

    /**
     * Places of all classes, moves ended and open; count 1 is ended and has a difference that is asked for, count 2
     * is frozen and has findings, count 3 is chosen and waits.
     */
    private static CountRounds busy() {
        CountRounds x = Scenes.withPlaces(0, 1, 2, 2);
        x.stock(0, 0, 10);
        x.stock(1, 0, 20);
        x.stock(2, 1, 30);
        x.cycle(0, 7, 2);
        x.right(1, 2);
        x.day(6);
        x.round(0, 1, 0);
        x.freeze(1);
        x.found(1, 0, 0, 6, 0);
        x.close(1);
        x.correct(1, 0, 1);
        x.round(1, 1, 0);
        x.freeze(2);
        x.found(2, 1, 0, 19, 3);
        x.found(2, 1, 1, 1, 3);
        x.found(2, 1, 1, 2, 4);
        x.move(2, 3, 1, 5);
        x.move(2, 3, 1, 6);
        x.end(1);
        x.stock(3, 1, 999999);
        x.round(2, 20, 1);
        return x;
    }

    private void leavesAsItWas(String what, Class<? extends RuntimeException> due, Consumer<CountRounds> call) {
        CountRounds x = busy();
        checks.refused(what, due, () -> call.accept(x));
        checks.holds("after " + what + " all is as it was: this", Fingerprint.of(x).equals(Fingerprint.of(busy())));
    }

    private void noSuchThingLeavesAllAsItWas() {
        sentences.test("Terms", NO_SUCH);
        leavesAsItWas("stock at place 4", NSE, x -> x.stock(4, 0, 1));
        leavesAsItWas("move from place 4", NSE, x -> x.move(4, 0, 0, 1));
        leavesAsItWas("move to place -1", NSE, x -> x.move(0, -1, 0, 1));
        leavesAsItWas("moves at place 4", NSE, x -> x.moves(4));
        leavesAsItWas("end of move 3", NSE, x -> x.end(3));
        leavesAsItWas("end of move 0", NSE, x -> x.end(0));
        leavesAsItWas("freezing count 4", NSE, x -> x.freeze(4));
        leavesAsItWas("finding for count 0", NSE, x -> x.found(0, 1, 0, 1, 0));
        leavesAsItWas("finding at place 4", NSE, x -> x.found(2, 4, 0, 1, 0));
        leavesAsItWas("second of count 4", NSE, x -> x.second(4, 1, 0));
        leavesAsItWas("second of a place that is not in it", NSE, x -> x.second(2, 0, 0));
        leavesAsItWas("closing count 4", NSE, x -> x.close(4));
        leavesAsItWas("difference of count 4", NSE, x -> x.differ(4, 0, 0));
        leavesAsItWas("difference 1", NSE, x -> x.differ(1, 1, 0));
        leavesAsItWas("difference of a frozen count", NSE, x -> x.differ(2, 0, 0));
        leavesAsItWas("correcting difference 1", NSE, x -> x.correct(1, 1, 0));
        leavesAsItWas("correcting for a frozen count", NSE, x -> x.correct(2, 0, 0));
        leavesAsItWas("last of place 4", NSE, x -> x.last(4));
        leavesAsItWas("booked at place 4", NSE, x -> x.booked(4, 0));
        leavesAsItWas("told of count 4", NSE, x -> x.told(4, 0));
    }

    private void wrongNumbersLeaveAllAsItWas() {
        sentences.test("Terms", ARGUMENT);
        leavesAsItWas("place of class 3", IAE, x -> x.place(3));
        leavesAsItWas("stock of good 6", IAE, x -> x.stock(0, 6, 1));
        leavesAsItWas("stock of 1000001", IAE, x -> x.stock(0, 0, 1000001));
        leavesAsItWas("cycle of class 3", IAE, x -> x.cycle(3, 1, 1));
        leavesAsItWas("cycle of 0 days", IAE, x -> x.cycle(0, 0, 5));
        leavesAsItWas("cycle with a tolerance of 1001", IAE, x -> x.cycle(0, 1, 1001));
        leavesAsItWas("right of person 6", IAE, x -> x.right(6, 4));
        leavesAsItWas("right of 1000001", IAE, x -> x.right(1, 1000001));
        leavesAsItWas("right of -1", IAE, x -> x.right(1, -1));
        leavesAsItWas("setting 2", IAE, x -> x.setting(2));
        leavesAsItWas("setting -1", IAE, x -> x.setting(-1));
        leavesAsItWas("day 10001", IAE, x -> x.day(10001));
        leavesAsItWas("day -1", IAE, x -> x.day(-1));
        leavesAsItWas("move to the same place", IAE, x -> x.move(0, 0, 0, 1));
        leavesAsItWas("move of good 6", IAE, x -> x.move(0, 1, 6, 1));
        leavesAsItWas("move of none", IAE, x -> x.move(0, 1, 0, 0));
        leavesAsItWas("round of class 3", IAE, x -> x.round(3, 1, 0));
        leavesAsItWas("round of none", IAE, x -> x.round(0, 0, 0));
        leavesAsItWas("round of 21", IAE, x -> x.round(0, 21, 1));
        leavesAsItWas("finding of good 6", IAE, x -> x.found(2, 1, 6, 1, 0));
        leavesAsItWas("finding of 1000001", IAE, x -> x.found(2, 1, 0, 1000001, 0));
        leavesAsItWas("finding of person 6", IAE, x -> x.found(2, 1, 0, 1, 6));
        leavesAsItWas("second of good 6", IAE, x -> x.second(2, 1, 6));
        leavesAsItWas("difference's what 6", IAE, x -> x.differ(1, 0, 6));
        leavesAsItWas("correcting by person 6", IAE, x -> x.correct(1, 0, 6));
        leavesAsItWas("share's side 2", IAE, x -> x.share(2));
        leavesAsItWas("due on day 10001", IAE, x -> x.due(10001));
        leavesAsItWas("booked of good 6", IAE, x -> x.booked(0, 6));
        leavesAsItWas("told's what 3", IAE, x -> x.told(1, 3));
    }

    private void wrongStatesLeaveAllAsItWas() {
        sentences.test("Terms", STATE);
        leavesAsItWas("an earlier day", ISE, x -> x.day(5));
        leavesAsItWas("move of too many", ISE, x -> x.move(0, 1, 0, 11));
        leavesAsItWas("end of an ended move", ISE, x -> x.end(1));
        leavesAsItWas("end of a move that would bring too many", ISE, x -> x.end(2));
        leavesAsItWas("round of a class that is all taken", ISE, x -> x.round(2, 1, 0));
        leavesAsItWas("freezing a frozen count", ISE, x -> x.freeze(2));
        leavesAsItWas("freezing an ended count", ISE, x -> x.freeze(1));
        leavesAsItWas("second of an ended count", ISE, x -> x.second(1, 0, 0));
        leavesAsItWas("second of a chosen count", ISE, x -> x.second(3, 2, 0));
        leavesAsItWas("closing a chosen count", ISE, x -> x.close(3));
        leavesAsItWas("closing an ended count", ISE, x -> x.close(1));
        CountRounds x = Scenes.differing(10, 4);
        x.stock(0, 0, 1);
        x.correct(1, 0, 3);
        CountRounds same = Scenes.differing(10, 4);
        same.stock(0, 0, 1);
        same.correct(1, 0, 3);
        checks.refused("correcting out of the range", ISE, () -> x.correct(1, 0, 4));
        checks.holds("after correcting out of the range all is as it was: this",
                Fingerprint.of(x).equals(Fingerprint.of(same)));
        CountRounds twice = corrected();
        checks.refused("correcting twice", ISE, () -> twice.correct(1, 0, 5));
        checks.holds("after correcting twice all is as it was: this",
                Fingerprint.of(twice).equals(Fingerprint.of(corrected())));
    }

    private static CountRounds corrected() {
        CountRounds x = Scenes.differing(10, 4);
        x.correct(1, 0, 0);
        x.correct(1, 0, 1);
        return x;
    }

    private void noRoomLeavesAllAsItWas() {
        sentences.test("Terms", ROOM);
        CountRounds places = Scenes.withPlaces(new int[20]);
        checks.refused("a place", UOE, () -> places.place(1));
        checks.holds("after a place too many all is as it was: this",
                Fingerprint.of(places).equals(Fingerprint.of(Scenes.withPlaces(new int[20]))));
        CountRounds moves = sixtyMoves();
        checks.refused("a move", UOE, () -> moves.move(0, 1, 0, 1));
        checks.holds("after a move too many all is as it was: this",
                Fingerprint.of(moves).equals(Fingerprint.of(sixtyMoves())));
        for (long seed = 0; seed < 2; seed++) {
            long s = seed;
            CountRounds counts = twentyCounts();
            checks.refused("a count", UOE, () -> counts.round(0, 1, s));
            checks.holds("after a count too many all is as it was: this",
                    Fingerprint.of(counts).equals(Fingerprint.of(twentyCounts())));
        }
    }

    private static CountRounds sixtyMoves() {
        CountRounds x = Scenes.withPlaces(0, 1);
        x.stock(0, 0, 100);
        for (int i = 0; i < 60; i++) {
            x.move(0, 1, 0, 1);
        }
        return x;
    }

    private static CountRounds twentyCounts() {
        CountRounds x = Scenes.withPlaces(0);
        for (int count = 1; count <= 20; count++) {
            x.round(0, 1, 0);
            x.freeze(count);
            x.close(count);
        }
        return x;
    }

    private void noTimesLeaveAllAsItWas() {
        sentences.test("Promise 18", "ArithmeticException (the machine's own) if there were none.");
        for (int side = 0; side < 2; side++) {
            int of = side;
            CountRounds x = Scenes.frozen(2);
            checks.refused("a share of no times", ArithmeticException.class, () -> x.share(of));
            checks.holds("after a share of no times all is as it was: this",
                    Fingerprint.of(x).equals(Fingerprint.of(Scenes.frozen(2))));
        }
    }

    /** What found answers below 0 is a refusal too, though none of the sentence's. */
    private void brokenFindingsLeaveAllAsItWas() {
        sentences.test("Promise 13", "or what it breaks, the first that holds:");
        int[][] broken = {{-1, 3, 2, 0}, {-1, 1, 0, 0}, {-2, 2, 0, 0}, {-3, 2, 1, 3}, {-4, 2, 1, 5}};
        for (int[] b : broken) {
            CountRounds x = busy();
            checks.same("found", x.found(b[1], b[2], b[0] == -4 || b[0] == -3 ? 1 : 0, 77, b[3]), b[0]);
            checks.holds("after a finding that answered " + b[0] + " all is as it was: this",
                    Fingerprint.of(x).equals(Fingerprint.of(busy())));
        }
        CountRounds waiting = busy();
        checks.same("freezing that waits", waiting.freeze(3), 0);
        checks.holds("after freezing that waits all is as it was: this",
                Fingerprint.of(waiting).equals(Fingerprint.of(busy())));
    }
}
