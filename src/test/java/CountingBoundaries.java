import java.util.NoSuchElementException;

/** The section 'Terms' from rounds to corrections. */
final class CountingBoundaries {
    private static final String TERMS = "Terms";
    private static final int[] TWENTY = new int[20];

    private final Checks checks;
    private final Sentences sentences;

    CountingBoundaries(Checks checks, Sentences sentences) {
        this.checks = checks;
        this.sentences = sentences;
    }

    void all() {
        asManyAsAskedAndThere();
        neverCountedThenEarlier();
        seedsWrapAround();
        seedsStopWhenNoneAreLeft();
        inTheOrderInWhichTheyCame();
        freezingNotes();
        freezingWaits();
        freezingDoesNotWait();
        firstFindings();
        secondFindings();
        toldByNobody();
        differences();
        counted();
        rightWithinTheTolerance();
        correctingAdds();
        aloneOrByTwo();
        staysInItsRange();
    }

    private void members(String what, CountRounds x, int count, int... due) {
        checks.same(what + ": how many", x.told(count, 1), due.length);
        for (int i = 0; i < due.length; i++) {
            checks.same(what + ": place " + i, x.told(count, 10 + i), due[i]);
        }
        checks.same(what + ": no more", x.told(count, 10 + due.length), -1);
    }

    private void asManyAsAskedAndThere() {
        sentences.test(TERMS, "ROUNDS. The places of a class (-1: of all) that are in no such count,"
                + " as many as are asked and there are.");
        for (long seed = 0; seed < 3; seed++) {
            int[][] asked = {{1, 1, 1}, {1, 20, 1}, {2, 1, 1}, {2, 2, 2}, {2, 3, 2}, {19, 20, 19}, {20, 19, 19}, {20, 20, 20}};
            for (int[] a : asked) {
                CountRounds x = Scenes.withPlaces(new int[a[0]]);
                x.round(0, a[1], seed);
                checks.same(a[1] + " of " + a[0] + " with seed " + seed, x.told(1, 1), a[2]);
            }
        }
        CountRounds x = Scenes.withPlaces(2, 1, 0, 1, 2, 0);
        x.round(1, 1, 0);
        members("one of a class", x, 1, 1);
        x.round(1, 20, 0);
        members("the other of the class", x, 2, 3);
        x.round(-1, 20, 0);
        members("of all that are left", x, 3, 0, 2, 4, 5);
        for (int kind = -1; kind < 3; kind++) {
            int none = kind;
            checks.refused("none left of " + kind, IllegalStateException.class, () -> x.round(none, 1, 0));
        }
    }

    private void neverCountedThenEarlier() {
        sentences.test(TERMS, "With seed 0 those come first that were never counted, then those that were counted earlier;"
                + " those that are alike by number.");
        CountRounds alike = Scenes.withPlaces(TWENTY);
        alike.round(0, 20, 0);
        for (int i = 0; i < 20; i++) {
            checks.same("never counted, by number", alike.told(1, 10 + i), i);
        }
        CountRounds x = Scenes.withPlaces(0, 0, 1, 1, 2);
        countAll(x, 0);
        x.round(-1, 20, 0);
        members("counted on day 0 is later than never", x, 2, 2, 3, 4, 0, 1);
        x.freeze(2);
        x.close(2);
        x.round(-1, 20, 0);
        members("a count that nobody told of changes nothing", x, 3, 2, 3, 4, 0, 1);
        CountRounds y = Scenes.withPlaces(2, 1, 0, 1);
        countAll(y, 0);
        y.day(1);
        countAll(y, 1);
        y.day(10000);
        countAll(y, 2);
        countAll(y, 0);
        y.round(-1, 20, 0);
        members("the earlier day first, alike by number", y, 5, 1, 3, 0, 2);
    }

    /** Counts all free places of a class. */
    private static void countAll(CountRounds x, int kind) {
        int count = x.round(kind, 20, 0);
        x.freeze(count);
        for (int i = 0; i < x.told(count, 1); i++) {
            x.found(count, x.told(count, 10 + i), 0, 0, 0);
        }
        x.close(count);
    }

    /** The orders were worked out in whole numbers without bounds, cut to 64 bits, not by Java. */
    private void seedsWrapAround() {
        sentences.test(TERMS, "With another seed x, as often as places are asked and left: x becomes x * 6364136223846793005"
                + " + 1442695040888963407 (in 64 bits); of the places that are left, by number, that with the number"
                + " (x >>> 33) % (how many are left), counted from 0, is the next one.");
        seven(1L, 1, 4, 2, 5, 0, 6, 3);
        seven(-1L, 5, 6, 2, 3, 0, 4, 1);
        seven(2L, 6, 0, 2, 1, 5, 4, 3);
        seven(Long.MIN_VALUE, 3, 5, 4, 0, 1, 6, 2);
        seven(Long.MAX_VALUE, 4, 1, 5, 3, 6, 2, 0);
        seven(1L << 32, 3, 1, 5, 2, 4, 6, 0);
        seven(-(1L << 32), 2, 0, 1, 3, 6, 4, 5);
        // It becomes 0 at once, which must not mean the order of seed 0 from there.
        seven(-7379792620528906219L, 0, 6, 5, 2, 3, 4, 1);
        CountRounds x = Scenes.withPlaces(TWENTY);
        x.round(-1, 20, -1L);
        members("all twenty", x, 1, 8, 7, 1, 10, 0, 4, 19, 3, 11, 5, 12, 9, 2, 13, 15, 6, 16, 17, 14, 18);
    }

    private void seven(long seed, int... due) {
        CountRounds x = Scenes.withPlaces(0, 0, 0, 0, 0, 0, 0);
        x.round(0, 7, seed);
        members("seed " + seed, x, 1, due);
        CountRounds three = Scenes.withPlaces(0, 0, 0, 0, 0, 0, 0);
        three.round(0, 3, seed);
        members("three by seed " + seed, three, 1, due[0], due[1], due[2]);
        // The places of another class, and those that are taken, are not numbered.
        CountRounds among = Scenes.withPlaces(1, 0, 0, 2, 0, 0, 0, 1, 0, 0, 0);
        among.round(0, 1, 0);
        among.round(0, 7, seed);
        int[] numbers = {2, 4, 5, 6, 8, 9, 10};
        for (int i = 0; i < 7; i++) {
            checks.same("among others by seed " + seed, among.told(2, 10 + i), numbers[due[i]]);
        }
    }

    private void seedsStopWhenNoneAreLeft() {
        sentences.test(TERMS, "as often as places are asked and left:");
        CountRounds x = Scenes.withPlaces(0);
        x.round(0, 20, -1L);
        members("one is left", x, 1, 0);
        CountRounds y = Scenes.withPlaces(0, 0, 0, 0, 0, 0, 0);
        y.round(-1, 20, Long.MIN_VALUE);
        members("seven are left", y, 1, 3, 5, 4, 0, 1, 6, 2);
    }

    private void inTheOrderInWhichTheyCame() {
        sentences.test(TERMS, "The count has its places in the order in which they came.");
        CountRounds x = Scenes.withPlaces(0, 0, 0, 0, 0, 0, 0);
        x.round(0, 7, 2L);
        x.freeze(1);
        members("frozen", x, 1, 6, 0, 2, 1, 5, 4, 3);
        for (int place = 0; place < 7; place++) {
            x.found(1, place, 0, 1, 0);
        }
        x.close(1);
        members("ended", x, 1, 6, 0, 2, 1, 5, 4, 3);
        int[] order = {6, 0, 2, 1, 5, 4, 3};
        for (int i = 0; i < 7; i++) {
            checks.same("difference " + i, x.differ(1, i, 0), order[i]);
        }
    }

    private void freezingNotes() {
        sentences.test(TERMS, "FREEZING notes what is booked of its places.");
        int[] many = {0, 1, 1000000};
        for (int n : many) {
            CountRounds x = Scenes.withPlaces(0);
            x.stock(0, 0, 500);
            x.round(0, 1, 0);
            x.stock(0, 0, n);
            x.freeze(1);
            x.stock(0, 0, 7);
            x.found(1, 0, 0, n, 0);
            checks.holds("as noted when it was frozen", !x.second(1, 0, 0));
            checks.same("no difference to it", x.close(1), 0);
            checks.same("booked as set", x.booked(0, 0), 7);
        }
    }

    private void freezingWaits() {
        sentences.test(TERMS, "With SETTING 0 (at first) it waits as long as a move is open at one of them;");
        CountRounds x = Scenes.withPlaces(0, 0, 0, 1);
        x.stock(2, 0, 9);
        x.stock(3, 0, 9);
        x.round(0, 20, 0);
        x.move(2, 3, 0, 1);
        x.move(3, 2, 0, 1);
        x.move(3, 0, 0, 1);
        for (int move = 1; move <= 3; move++) {
            checks.same("a move is open at one of them", x.freeze(1), 0);
            checks.same("it is chosen still", x.told(1, 0), 0);
            x.end(move);
        }
        checks.same("none is open any more", x.freeze(1), 3);
        CountRounds y = Scenes.withPlaces(0, 1, 1);
        y.stock(1, 0, 1);
        y.move(1, 2, 0, 1);
        y.round(0, 1, 0);
        checks.same("a move between others", y.freeze(1), 1);
        CountRounds again = Scenes.withPlaces(0, 0);
        again.stock(0, 0, 1);
        again.move(0, 1, 0, 1);
        again.round(0, 2, 0);
        again.setting(1);
        again.setting(0);
        checks.same("0 again", again.freeze(1), 0);
    }

    private void freezingDoesNotWait() {
        sentences.test(TERMS, "with 1 it does not wait, and notes what is booked and what open moves will bring.");
        CountRounds x = Scenes.withPlaces(0, 0);
        x.setting(1);
        for (int i = 0; i < 60; i++) {
            x.stock(0, 5, 1000000);
            x.move(0, 1, 5, 1000000);
        }
        x.stock(1, 5, 1000000);
        x.stock(0, 5, 3);
        x.round(0, 2, 0);
        checks.same("does not wait", x.freeze(1), 2);
        x.found(1, 0, 5, 0, 0);
        x.found(1, 1, 5, 0, 0);
        checks.same("differences", x.close(1), 2);
        checks.same("what goes is not noted", x.differ(1, 0, 2), -3);
        checks.same("what all sixty will bring is", x.differ(1, 1, 2), -61000000);
        CountRounds y = Scenes.withPlaces(0, 1);
        y.stock(1, 0, 20);
        y.move(1, 0, 0, 4);
        y.move(1, 0, 0, 5);
        y.end(2);
        y.setting(1);
        y.round(0, 1, 0);
        y.freeze(1);
        y.move(1, 0, 0, 1);
        y.end(1);
        y.found(1, 0, 0, 9, 0);
        checks.same("an ended one is not noted twice, a later one not at all", y.close(1), 0);
        CountRounds other = Scenes.withPlaces(0, 1);
        other.stock(1, 2, 4);
        other.move(1, 0, 2, 4);
        other.setting(1);
        other.round(0, 1, 0);
        other.freeze(1);
        other.found(1, 0, 2, 4, 0);
        checks.same("noted as its own good alone", other.close(1), 0);
    }

    private void firstFindings() {
        sentences.test(TERMS, "FINDINGS: for a place and good of a frozen count a person tells how many there are:"
                + " the first one.");
        CountRounds x = Scenes.chosen(1);
        checks.same("not of a chosen one", x.found(1, 0, 0, 2, 0), -1);
        x.freeze(1);
        checks.same("none yet", x.told(1, 2), 0);
        checks.same("of a frozen one", x.found(1, 0, 0, 2, 0), 1);
        checks.same("of another good by the same person", x.found(1, 0, 5, 3, 0), 1);
        x.close(1);
        checks.same("not of an ended one", x.found(1, 0, 1, 2, 0), -1);
        checks.same("two findings", x.told(1, 2), 2);
        checks.same("what was told", x.differ(1, 0, 2), 2);
        checks.same("what was told of the other", x.differ(1, 1, 2), 3);
    }

    private void secondFindings() {
        sentences.test(TERMS, "A second one may be told by another person; it counts then instead.");
        int[][] told = {{7, 0}, {0, 7}, {1000000, 999999}, {7, 7}};
        for (int[] n : told) {
            CountRounds x = Scenes.withPlaces(0);
            x.stock(0, 0, 50);
            x.round(0, 1, 0);
            x.freeze(1);
            x.found(1, 0, 0, n[0], 0);
            checks.same("not by the same person", x.found(1, 0, 0, n[1], 0), -3);
            checks.same("by another", x.found(1, 0, 0, n[1], 5), 1);
            checks.same("not a third", x.found(1, 0, 0, 33, 2), -4);
            x.close(1);
            checks.same("it counts", x.differ(1, 0, 2), n[1] - 50);
            checks.same("its person", x.differ(1, 0, 3), 5);
        }
        CountRounds noted = Scenes.withPlaces(0);
        noted.stock(0, 0, 50);
        noted.round(0, 1, 0);
        noted.freeze(1);
        noted.found(1, 0, 0, 9, 0);
        noted.found(1, 0, 0, 50, 1);
        checks.same("as noted after all", noted.close(1), 0);
        checks.same("and right", noted.share(0), 1);
    }

    private void toldByNobody() {
        sentences.test(TERMS, "(What was told by nobody counts as 0 when the count ends,"
                + " if something was told of its place.)");
        CountRounds x = Scenes.withPlaces(0, 0);
        x.stock(0, 0, 8);
        x.stock(0, 5, 9);
        x.stock(1, 0, 10);
        x.round(0, 2, 0);
        x.freeze(1);
        x.found(1, 0, 3, 0, 2);
        checks.holds("no second one is wanted of it", !x.second(1, 0, 0));
        checks.same("two of the place, none of the other", x.close(1), 2);
        checks.same("8 less", x.differ(1, 0, 2), -8);
        checks.same("by nobody", x.differ(1, 0, 3), -1);
        checks.same("9 less", x.differ(1, 1, 2), -9);
        checks.same("of good 5", x.differ(1, 1, 1), 5);
        CountRounds none = Scenes.withPlaces(0);
        none.stock(0, 0, 1);
        none.round(0, 1, 0);
        none.freeze(1);
        checks.same("nothing told at all", none.close(1), 0);
    }

    private void differences() {
        sentences.test(TERMS, "DIFFERENCES of an ended count, by its places in their order, by goods: what counts less what"
                + " was noted, where it is not 0; of places of which something was told.");
        CountRounds full = Scenes.withPlaces(TWENTY);
        full.round(0, 20, -1L);
        full.freeze(1);
        for (int line = 119; line >= 0; line--) {
            full.found(1, line / 6, line % 6, 1 + line, line % 5);
        }
        checks.same("the most", full.close(1), 120);
        int[] order = {8, 7, 1, 10, 0, 4, 19, 3, 11, 5, 12, 9, 2, 13, 15, 6, 16, 17, 14, 18};
        for (int i = 0; i < 120; i++) {
            checks.same("place of difference " + i, full.differ(1, i, 0), order[i / 6]);
            checks.same("good of difference " + i, full.differ(1, i, 1), i % 6);
            checks.same("difference " + i, full.differ(1, i, 2), 1 + order[i / 6] * 6 + i % 6);
        }
        CountRounds x = Scenes.withPlaces(0, 0);
        x.cycle(0, 30, 1000);
        x.stock(0, 0, 5);
        x.stock(0, 1, 5);
        x.stock(0, 2, 5);
        x.stock(1, 0, 5);
        x.round(0, 2, 0);
        x.freeze(1);
        x.found(1, 0, 0, 4, 0);
        x.found(1, 0, 1, 5, 0);
        x.found(1, 0, 2, 6, 0);
        checks.same("also within the tolerance, none of what is 0 or of an untold place", x.close(1), 2);
        checks.same("one less", x.differ(1, 0, 2), -1);
        checks.same("one more", x.differ(1, 1, 2), 1);
        checks.refused("a third", NoSuchElementException.class, () -> x.differ(1, 2, 0));
        checks.same("the fewest", Scenes.frozen(1).close(1), 0);
    }

    private void counted() {
        sentences.test(TERMS, "A place is COUNTED on the day on which a count ends in which something was told of it;");
        int[][] days = {{0, 0, 0, 0}, {0, 1, 2, 3}, {9997, 9998, 9999, 10000}};
        for (int[] d : days) {
            CountRounds x = Scenes.withPlaces(0, 0);
            x.day(d[0]);
            x.round(0, 2, 0);
            x.day(d[1]);
            x.freeze(1);
            x.day(d[2]);
            x.found(1, 1, 5, 0, 0);
            checks.same("not before it ends", x.last(1), -1);
            x.day(d[3]);
            x.close(1);
            checks.same("on the day on which it ends", x.last(1), d[3]);
            checks.same("nothing was told of it", x.last(0), -1);
            checks.same("one was counted", x.share(1), 1);
        }
        CountRounds none = Scenes.frozen(1);
        none.close(1);
        checks.same("nothing told", none.last(0), -1);
        checks.refused("none counted", ArithmeticException.class, () -> none.share(0));
    }

    private void rightWithinTheTolerance() {
        sentences.test(TERMS, "it was RIGHT then if no difference of it is greater, in either direction,"
                + " than its class's tolerance (as it is then).");
        int[][] told = {{0, 5000, 1}, {0, 4999, 0}, {0, 5001, 0}, {7, 4993, 1}, {7, 4992, 0}, {7, 5007, 1}, {7, 5008, 0},
            {1000, 4000, 1}, {1000, 3999, 0}, {1000, 6000, 1}, {1000, 6001, 0}};
        for (int[] t : told) {
            for (int good = 0; good < 6; good++) {
                CountRounds x = Scenes.withPlaces(2);
                x.stock(0, good, 5000);
                x.cycle(0, 30, 1000 - t[0]);
                x.cycle(1, 30, 1000 - t[0]);
                x.round(2, 1, 0);
                x.freeze(1);
                x.found(1, 0, good, t[1], 0);
                x.cycle(2, 30, t[0]);
                x.close(1);
                x.cycle(2, 30, 1000 - t[0]);
                checks.same(t[1] + " for 5000 within " + t[0], x.share(0), t[2]);
            }
        }
        CountRounds untold = Scenes.withPlaces(0);
        untold.stock(0, 4, 3);
        untold.cycle(0, 30, 2);
        Scenes.countOne(untold, 0, 0);
        checks.same("what nobody told counts too", untold.share(0), 0);
        untold.cycle(0, 30, 3);
        Scenes.countOne(untold, 0, 0);
        checks.same("and is right within it", untold.share(0), 1);
        checks.same("once of two times", untold.share(1), 2);
    }

    private void correctingAdds() {
        sentences.test(TERMS, "CORRECTING a difference adds it to what is booked.");
        int[][] cases = {{10, 4, 10, 4}, {10, 4, 6, 0}, {10, 4, 1000000, 999994}, {4, 10, 4, 10}, {4, 10, 0, 6},
            {4, 10, 999994, 1000000}};
        for (int[] c : cases) {
            CountRounds x = Scenes.differing(c[0], c[1]);
            x.stock(0, 0, c[2]);
            x.right(1, 6);
            checks.holds("corrected", x.correct(1, 0, 1));
            checks.same("booked " + c[2] + ", noted " + c[0] + ", told " + c[1], x.booked(0, 0), c[3]);
            checks.same("another good", x.booked(0, 1), 0);
        }
    }

    private void aloneOrByTwo() {
        sentences.test(TERMS, "A person with a right not below it (in either direction) may alone; otherwise it is ASKED for"
                + " by this person; another one that corrects then may, with whatever right.");
        int[] told = {400, 600};
        for (int n : told) {
            CountRounds just = Scenes.differing(500, n);
            just.right(0, 100);
            checks.holds("a right that just reaches", just.correct(1, 0, 0));
            checks.same("was not asked for", just.differ(1, 0, 5), -1);
            CountRounds x = Scenes.differing(500, n);
            x.right(0, 99);
            checks.holds("a right one too small", !x.correct(1, 0, 0));
            checks.same("asked for", x.differ(1, 0, 5), 0);
            checks.holds("the same person again", !x.correct(1, 0, 0));
            checks.same("not booked", x.booked(0, 0), 500);
            checks.holds("another one, of no right at all", x.correct(1, 0, 5));
            checks.same("booked", x.booked(0, 0), n);
            checks.same("corrected", x.differ(1, 0, 4), 1);
            CountRounds later = Scenes.differing(500, n);
            later.correct(1, 0, 3);
            later.right(3, 100);
            checks.holds("the asker, with a right that came later", later.correct(1, 0, 3));
        }
        CountRounds two = Scenes.withPlaces(0);
        two.round(0, 1, 0);
        two.freeze(1);
        two.found(1, 0, 0, 5, 0);
        two.found(1, 0, 1, 5, 0);
        two.close(1);
        checks.holds("asks for one", !two.correct(1, 0, 1));
        checks.holds("another asks for the other one", !two.correct(1, 1, 2));
        checks.same("asked for by itself", two.differ(1, 0, 5), 1);
        checks.same("the other one by another", two.differ(1, 1, 5), 2);
    }

    private void staysInItsRange() {
        sentences.test(TERMS, "What is booked must stay in its range.");
        CountRounds low = Scenes.differing(10, 4);
        low.right(0, 6);
        low.stock(0, 0, 5);
        checks.refused("one below the least", IllegalStateException.class, () -> low.correct(1, 0, 0));
        checks.same("as before", low.booked(0, 0), 5);
        checks.same("not corrected", low.differ(1, 0, 4), 0);
        low.stock(0, 0, 6);
        checks.holds("to the least", low.correct(1, 0, 0));
        checks.same("the least", low.booked(0, 0), 0);
        CountRounds high = Scenes.differing(4, 10);
        high.right(0, 6);
        high.stock(0, 0, 999995);
        checks.refused("one above the most", IllegalStateException.class, () -> high.correct(1, 0, 0));
        checks.same("as before", high.booked(0, 0), 999995);
        high.stock(0, 0, 999994);
        checks.holds("to the most", high.correct(1, 0, 0));
        checks.same("the most", high.booked(0, 0), 1000000);
    }
}
