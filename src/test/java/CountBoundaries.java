import java.util.NoSuchElementException;

/** The boundary cases that promises 11 to 17 name: rounds, freezing, findings, ending, differences, correcting. */
final class CountBoundaries {
    private static final Class<NoSuchElementException> NSE = NoSuchElementException.class;
    private static final Class<IllegalArgumentException> IAE = IllegalArgumentException.class;
    private static final Class<IllegalStateException> ISE = IllegalStateException.class;

    private final Checks checks;
    private final Sentences sentences;

    CountBoundaries(Checks checks, Sentences sentences) {
        this.checks = checks;
        this.sentences = sentences;
    }

    void all() {
        roundsOfOneToTwenty();
        roundsOfAnotherClassOrNumber();
        roundsOfNoPlace();
        freezing();
        freezingWhatIsNotChosen();
        findings();
        findingsThatBreak();
        secondIsWanted();
        secondOfNoSuchCountOrPlace();
        secondOfWhatIsNotFrozen();
        ending();
        endingWhatIsNotFrozen();
        ofADifference();
        noSuchDifference();
        noSuchWhatOfADifference();
        correcting();
        correctedAlready();
        leavingTheRange();
    }

    private void roundsOfOneToTwenty() {
        sentences.test("Promise 11", "A count of up to so many places (1 .. 20): its number.");
        for (int many = 1; many <= 20; many++) {
            CountRounds x = Scenes.withPlaces(new int[20]);
            checks.same("its number", x.round(-1, many, many % 3), 1);
            checks.same("asked for " + many, x.told(1, 1), many);
            checks.same("its last one is there", x.told(1, 9 + many) >= 0 ? 1 : 0, 1);
            checks.same("and no more", x.told(1, 10 + many), -1);
        }
        CountRounds fewer = Scenes.withPlaces(0);
        checks.same("its number", fewer.round(0, 20, 0), 1);
        checks.same("fewer there than asked", fewer.told(1, 1), 1);
    }

    private void roundsOfAnotherClassOrNumber() {
        sentences.test("Promise 11", "IllegalArgumentException: another class than -1 .. 2, or number;");
        CountRounds x = Scenes.withPlaces(0, 1, 2, 0);
        for (long seed = -1; seed < 2; seed++) {
            long s = seed;
            for (int kind : new int[] {-2, 3, Integer.MIN_VALUE, Integer.MAX_VALUE}) {
                checks.refused("class " + kind, IAE, () -> x.round(kind, 1, s));
            }
            for (int many : new int[] {0, -1, 21, Integer.MIN_VALUE, Integer.MAX_VALUE}) {
                checks.refused("number " + many, IAE, () -> x.round(-1, many, s));
                checks.refused("number " + many + " of a class", IAE, () -> x.round(2, many, s));
            }
        }
        checks.same("none is made", x.count(2), 0);
        for (int kind = -1; kind < 3; kind++) {
            checks.same("class " + kind, x.round(kind, 1, 0), kind + 2);
            checks.same("its place", x.told(kind + 2, 10), kind == -1 ? 0 : kind == 0 ? 3 : kind);
        }
    }

    private void roundsOfNoPlace() {
        sentences.test("Promise 11", "IllegalStateException: there is no such place.");
        CountRounds x = new CountRounds();
        for (int kind = -1; kind < 3; kind++) {
            noPlaceOf(x, kind);
        }
        x.place(1);
        noPlaceOf(x, 0);
        noPlaceOf(x, 2);
        x.round(1, 1, 0);
        noPlaceOf(x, 1);
        noPlaceOf(x, -1);
        x.freeze(1);
        noPlaceOf(x, 1);
        checks.same("one is made", x.count(2), 1);
        x.close(1);
        checks.same("it is free again", x.round(1, 1, 0), 2);
    }

    private void noPlaceOf(CountRounds x, int kind) {
        checks.refused("class " + kind + " by rank", ISE, () -> x.round(kind, 1, 0));
        checks.refused("class " + kind + " by seed", ISE, () -> x.round(kind, 20, -5));
    }

    private void freezing() {
        sentences.test("Promise 12", "A chosen count is frozen: how many places it has; 0 if it waits.");
        for (int places = 1; places <= 20; places++) {
            CountRounds x = Scenes.chosen(places);
            checks.same("how many", x.freeze(1), places);
            checks.same("frozen", x.told(1, 0), 1);
        }
        CountRounds x = Scenes.chosen(20);
        x.stock(18, 0, 2);
        x.move(18, 19, 0, 1);
        x.move(18, 19, 0, 1);
        checks.same("waits", x.freeze(1), 0);
        checks.same("chosen", x.told(1, 0), 0);
        x.end(1);
        checks.same("waits for the other too", x.freeze(1), 0);
        x.end(2);
        checks.same("waits no longer", x.freeze(1), 20);
        checks.same("frozen", x.told(1, 0), 1);
        for (int count : new int[] {0, -1, 2, 21, Integer.MIN_VALUE, Integer.MAX_VALUE}) {
            checks.refused("count " + count, NSE, () -> x.freeze(count));
        }
    }

    private void freezingWhatIsNotChosen() {
        sentences.test("Promise 12", "IllegalStateException: it is not CHOSEN.");
        for (int setting = 0; setting < 2; setting++) {
            CountRounds x = Scenes.withPlaces(0, 0);
            x.setting(setting);
            x.stock(0, 0, 5);
            x.round(0, 2, 0);
            x.freeze(1);
            x.stock(0, 0, 6);
            x.move(0, 1, 0, 1);
            checks.refused("frozen, even if it would wait", ISE, () -> x.freeze(1));
            x.found(1, 0, 0, 5, 0);
            checks.same("it keeps what it noted first", x.close(1), 0);
            checks.refused("ended", ISE, () -> x.freeze(1));
            checks.same("it stays ended", x.told(1, 0), 2);
        }
    }

    private void findings() {
        sentences.test("Promise 13", "A person finds so many (0 .. 1000000) of a good at a place: 1;");
        CountRounds x = Scenes.frozen(1);
        for (int n : new int[] {-1, 1000001, Integer.MIN_VALUE, Integer.MAX_VALUE}) {
            checks.refused("found " + n, IAE, () -> x.found(1, 0, 0, n, 0));
        }
        checks.same("nothing was told", x.told(1, 2), 0);
        checks.same("none", x.found(1, 0, 0, 0, 0), 1);
        checks.same("one", x.found(1, 0, 1, 1, 0), 1);
        checks.same("the most", x.found(1, 0, 5, 1000000, 0), 1);
        checks.same("three findings", x.told(1, 2), 3);
        checks.same("two differences", x.close(1), 2);
        checks.same("one piece", x.differ(1, 0, 2), 1);
        checks.same("the most pieces", x.differ(1, 1, 2), 1000000);
        CountRounds full = Scenes.frozen(20);
        for (int line = 0; line < 120; line++) {
            checks.same("a first one", full.found(1, line / 6, line % 6, 1, 0), 1);
            checks.same("a second one", full.found(1, line / 6, line % 6, 2, 1), 1);
        }
        checks.same("as many as there can be", full.told(1, 2), 240);
    }

    private void findingsThatBreak() {
        sentences.test("Promise 13", "or what it breaks, the first that holds: -1 the count is not frozen, -2 the place is not"
                + " in it, -3 this person told it already, -4 two have.");
        CountRounds x = Scenes.withPlaces(0, 1);
        x.round(0, 1, 0);
        checks.same("chosen", x.found(1, 0, 0, 1, 0), -1);
        checks.same("chosen, and not in it", x.found(1, 1, 0, 1, 0), -1);
        x.freeze(1);
        checks.same("not in it", x.found(1, 1, 0, 1, 0), -2);
        x.found(1, 0, 0, 1, 0);
        checks.same("told it already", x.found(1, 0, 0, 1, 0), -3);
        checks.same("told it already, with another number", x.found(1, 0, 0, 2, 0), -3);
        x.found(1, 0, 0, 3, 5);
        checks.same("told it already, and two have: the first person", x.found(1, 0, 0, 1, 0), -3);
        checks.same("told it already, and two have: the second person", x.found(1, 0, 0, 1, 5), -3);
        for (int person = 1; person < 5; person++) {
            checks.same("two have", x.found(1, 0, 0, 1, person), -4);
        }
        checks.same("of another good nobody has", x.found(1, 0, 1, 1, 0), 1);
        checks.same("findings", x.told(1, 2), 3);
        x.close(1);
        checks.same("ended, and told already", x.found(1, 0, 0, 1, 0), -1);
        checks.same("ended, and not in it", x.found(1, 1, 0, 1, 0), -1);
        checks.same("ended, and two have", x.found(1, 0, 0, 1, 2), -1);
        checks.same("findings as before", x.told(1, 2), 3);
        checks.same("the second one counts", x.differ(1, 0, 2), 3);
        x.round(0, 1, 0);
        x.freeze(2);
        checks.same("what was told of another count does not matter", x.found(2, 0, 0, 1, 0), 1);
        checks.same("the ended count stays ended though its place is in a frozen one", x.found(1, 0, 0, 1, 1), -1);
    }

    private void secondIsWanted() {
        sentences.test("Promise 14", "Whether a second finding is wanted: of the frozen count, for a place and good, there is"
                + " one alone, and it is not what was noted by more than the tolerance of the place's class.");
        int[][] told = {{0, 5000, 0}, {0, 5001, 1}, {0, 4999, 1}, {3, 5003, 0}, {3, 5004, 1}, {3, 4997, 0}, {3, 4996, 1},
            {1000, 6000, 0}, {1000, 6001, 1}, {1000, 4000, 0}, {1000, 3999, 1}, {1000, 0, 1}, {1000, 1000000, 1}};
        for (int[] t : told) {
            CountRounds x = Scenes.withPlaces(0, 1);
            x.stock(1, 5, 5000);
            x.round(1, 1, 0);
            x.freeze(1);
            x.cycle(0, 30, 1000 - t[0]);
            x.cycle(1, 30, t[0]);
            x.stock(1, 5, 0);
            checks.holds("none is told", !x.second(1, 1, 5));
            x.found(1, 1, 5, t[1], 2);
            checks.same(t[1] + " for 5000 within " + t[0], x.second(1, 1, 5) ? 1 : 0, t[2]);
            checks.holds("of another good none is told", !x.second(1, 1, 4));
            x.found(1, 1, 5, t[1], 3);
            checks.holds("two are told", !x.second(1, 1, 5));
        }
    }

    private void secondOfNoSuchCountOrPlace() {
        sentences.test("Promise 14", "NoSuchElementException: no such count, or the place is not in it;");
        CountRounds x = Scenes.withPlaces(0, 1, 1);
        x.round(0, 1, 0);
        x.round(1, 1, 0);
        x.freeze(1);
        x.freeze(2);
        for (int count : new int[] {0, -1, 3, 21, Integer.MIN_VALUE, Integer.MAX_VALUE}) {
            checks.refused("count " + count, NSE, () -> x.second(count, 0, 0));
        }
        for (int place : new int[] {-1, 1, 2, 3, 20, Integer.MIN_VALUE, Integer.MAX_VALUE}) {
            checks.refused("place " + place, NSE, () -> x.second(1, place, 0));
        }
        checks.holds("the place that is in it", !x.second(1, 0, 0));
        checks.holds("the place of the other", !x.second(2, 1, 0));
    }

    private void secondOfWhatIsNotFrozen() {
        sentences.test("Promise 14", "IllegalStateException: it is not FROZEN.");
        CountRounds x = Scenes.chosen(1);
        checks.refused("chosen", ISE, () -> x.second(1, 0, 0));
        x.freeze(1);
        x.found(1, 0, 0, 5, 0);
        checks.holds("frozen", x.second(1, 0, 0));
        x.close(1);
        checks.refused("ended", ISE, () -> x.second(1, 0, 0));
    }

    private void ending() {
        sentences.test("Promise 15", "A frozen count ends: how many differences it has.");
        for (int told = 0; told <= 120; told += 40) {
            CountRounds x = Scenes.frozen(20);
            for (int line = 0; line < told; line++) {
                x.found(1, line / 6, line % 6, 1, 0);
            }
            checks.same("differences", x.close(1), told);
            checks.same("ended", x.told(1, 0), 2);
        }
        CountRounds same = Scenes.frozen(20);
        for (int line = 0; line < 120; line++) {
            same.found(1, line / 6, line % 6, 0, 0);
        }
        checks.same("all told, none differs", same.close(1), 0);
        for (int count : new int[] {0, -1, 2, 21, Integer.MIN_VALUE, Integer.MAX_VALUE}) {
            checks.refused("count " + count, NSE, () -> same.close(count));
        }
    }

    private void endingWhatIsNotFrozen() {
        sentences.test("Promise 15", "IllegalStateException: it is not FROZEN.");
        CountRounds x = Scenes.withPlaces(0, 0);
        x.stock(0, 0, 5);
        x.move(0, 1, 0, 1);
        x.round(0, 2, 0);
        checks.refused("chosen", ISE, () -> x.close(1));
        x.freeze(1);
        checks.refused("chosen and waiting", ISE, () -> x.close(1));
        checks.same("chosen still", x.told(1, 0), 0);
        x.end(1);
        x.freeze(1);
        x.found(1, 0, 0, 5, 0);
        checks.same("frozen", x.close(1), 1);
        x.day(4);
        checks.refused("ended", ISE, () -> x.close(1));
        checks.same("counted once", x.last(0), 0);
        checks.same("of one time", x.share(1), 1);
    }

    private void ofADifference() {
        sentences.test("Promise 16", "Of difference i of an ended count 0 its place, 1 its good, 2 the difference, 3 the person"
                + " whose finding counts (-1 none), 4 whether it is corrected, 5 the person that asked for it (-1 none).");
        CountRounds x = Scenes.withPlaces(0, 0, 0, 0, 0, 0, 0, 0);
        x.stock(7, 4, 1000000);
        x.round(0, 8, 0);
        x.freeze(1);
        x.found(1, 7, 5, 1000000, 0);
        x.found(1, 2, 3, 9, 1);
        x.found(1, 2, 3, 8, 5);
        checks.same("three", x.close(1), 3);
        whole(x, 0, 2, 3, 8, 5, 0, -1);
        whole(x, 1, 7, 4, -1000000, -1, 0, -1);
        whole(x, 2, 7, 5, 1000000, 0, 0, -1);
        x.correct(1, 1, 0);
        x.correct(1, 2, 5);
        x.correct(1, 2, 5);
        whole(x, 1, 7, 4, -1000000, -1, 0, 0);
        whole(x, 2, 7, 5, 1000000, 0, 0, 5);
        x.correct(1, 1, 4);
        x.right(2, 8);
        x.correct(1, 0, 2);
        whole(x, 0, 2, 3, 8, 5, 1, -1);
        whole(x, 1, 7, 4, -1000000, -1, 1, 0);
        whole(x, 2, 7, 5, 1000000, 0, 0, 5);
    }

    private void whole(CountRounds x, int i, int... due) {
        for (int what = 0; what < 6; what++) {
            checks.same("what " + what + " of difference " + i, x.differ(1, i, what), due[what]);
        }
    }

    private void noSuchDifference() {
        sentences.test("Promise 16", "NoSuchElementException: no such count or difference"
                + " (a count that is not ENDED has none);");
        CountRounds x = Scenes.chosen(20);
        checks.refused("chosen", NSE, () -> x.differ(1, 0, 0));
        x.freeze(1);
        for (int line = 0; line < 120; line++) {
            x.found(1, line / 6, line % 6, 1, 0);
        }
        checks.refused("frozen", NSE, () -> x.differ(1, 0, 0));
        checks.refused("frozen, the last", NSE, () -> x.differ(1, 119, 0));
        x.close(1);
        checks.same("the first", x.differ(1, 0, 0), 0);
        checks.same("the last", x.differ(1, 119, 0), 19);
        for (int i : new int[] {-1, 120, 121, Integer.MIN_VALUE, Integer.MAX_VALUE}) {
            checks.refused("difference " + i, NSE, () -> x.differ(1, i, 0));
        }
        for (int count : new int[] {0, -1, 2, 21, Integer.MIN_VALUE, Integer.MAX_VALUE}) {
            checks.refused("count " + count, NSE, () -> x.differ(count, 0, 0));
        }
        CountRounds one = Scenes.differing(1, 0);
        checks.refused("one beyond the only one", NSE, () -> one.differ(1, 1, 0));
        CountRounds none = Scenes.differing(1, 1);
        checks.refused("it has none", NSE, () -> none.differ(1, 0, 0));
    }

    private void noSuchWhatOfADifference() {
        sentences.test("Promise 16", "(a count that is not ENDED has none); IllegalArgumentException.");
        CountRounds x = Scenes.differing(5, 3);
        for (int what : new int[] {-1, 6, 7, Integer.MIN_VALUE, Integer.MAX_VALUE}) {
            checks.refused("what " + what, IAE, () -> x.differ(1, 0, what));
        }
    }

    private void correcting() {
        sentences.test("Promise 17", "A person corrects difference i of an ended count: true;"
                + " false if it is asked for (again, or now).");
        CountRounds x = Scenes.withPlaces(0);
        x.round(0, 1, 0);
        x.freeze(1);
        x.found(1, 0, 0, 3, 0);
        checks.refused("none of a frozen one", NSE, () -> x.correct(1, 0, 0));
        x.found(1, 0, 5, 4, 0);
        x.close(1);
        checks.holds("asked for now", !x.correct(1, 1, 3));
        checks.holds("asked for again", !x.correct(1, 1, 3));
        checks.holds("and again", !x.correct(1, 1, 3));
        checks.holds("by two", x.correct(1, 1, 0));
        checks.same("the last one is booked", x.booked(0, 5), 4);
        checks.same("the first one not", x.booked(0, 0), 0);
        x.right(3, 3);
        checks.holds("alone", x.correct(1, 0, 3));
        checks.same("the first one is booked", x.booked(0, 0), 3);
        for (int i : new int[] {-1, 2, 120, Integer.MIN_VALUE, Integer.MAX_VALUE}) {
            checks.refused("difference " + i, NSE, () -> x.correct(1, i, 0));
        }
        for (int person : new int[] {-1, 6, Integer.MIN_VALUE, Integer.MAX_VALUE}) {
            checks.refused("person " + person, IAE, () -> x.correct(1, 0, person));
        }
    }

    private void correctedAlready() {
        sentences.test("Promise 17", "IllegalStateException: it is corrected,");
        CountRounds x = Scenes.differing(5, 3);
        x.right(0, 1000000);
        x.correct(1, 0, 0);
        for (int person = 0; person < 6; person++) {
            int by = person;
            checks.refused("again by " + person, ISE, () -> x.correct(1, 0, by));
        }
        checks.same("booked once", x.booked(0, 0), 3);
        checks.same("asked for by nobody", x.differ(1, 0, 5), -1);
        CountRounds two = Scenes.differing(5, 3);
        two.correct(1, 0, 4);
        two.correct(1, 0, 5);
        checks.refused("again by the asker", ISE, () -> two.correct(1, 0, 4));
        checks.refused("again by the other", ISE, () -> two.correct(1, 0, 5));
        checks.refused("by a third", ISE, () -> two.correct(1, 0, 1));
        checks.same("booked once by two", two.booked(0, 0), 3);
    }

    private void leavingTheRange() {
        sentences.test("Promise 17", "or what is booked would leave its range (when it may be corrected).");
        int[][] cases = {{5, 2, 2, 3}, {2, 5, 999998, 999997}, {1000000, 0, 999999, 1000000}, {0, 1000000, 1, 0}};
        for (int[] c : cases) {
            CountRounds alone = Scenes.differing(c[0], c[1]);
            alone.right(0, 1000000);
            alone.stock(0, 0, c[2]);
            checks.refused("alone", ISE, () -> alone.correct(1, 0, 0));
            checks.same("not corrected", alone.differ(1, 0, 4), 0);
            checks.same("nor asked for", alone.differ(1, 0, 5), -1);
            alone.stock(0, 0, c[3]);
            checks.holds("just within", alone.correct(1, 0, 0));
            checks.same("booked", alone.booked(0, 0), c[3] + c[1] - c[0]);
            CountRounds two = Scenes.differing(c[0], c[1]);
            two.stock(0, 0, c[2]);
            checks.holds("asking may be", !two.correct(1, 0, 1));
            checks.refused("by two", ISE, () -> two.correct(1, 0, 2));
            checks.same("as before", two.booked(0, 0), c[2]);
            checks.same("asked for still", two.differ(1, 0, 5), 1);
            checks.holds("asking again may be", !two.correct(1, 0, 1));
            two.stock(0, 0, c[3]);
            checks.holds("by two, just within", two.correct(1, 0, 3));
        }
    }
}
