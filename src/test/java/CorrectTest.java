import java.util.NoSuchElementException;

/** Promise 17 (correct). */
final class CorrectTest {
    private static final Checks CHECKS = new Checks("CorrectTest");

    public static void main(String[] args) {
        withinTheRight();
        beyondTheRight();
        theOtherNeedsNoRight();
        aRightThatComesLater();
        addsToWhatIsBooked();
        staysInItsRange();
        askingDoesNotLookAtTheRange();
        correctRefuses();
        CHECKS.end();
    }

    private static void withinTheRight() {
        int[] told = {6, 14};
        for (int n : told) {
            CountRounds x = Scenes.differing(10, n);
            x.right(3, 4);
            CHECKS.holds("a right not below it", x.correct(1, 0, 3));
            CHECKS.same("booked", x.booked(0, 0), n);
            CHECKS.same("corrected", x.differ(1, 0, 4), 1);
            CHECKS.same("nobody asked", x.differ(1, 0, 5), -1);
            CHECKS.refused("corrected", IllegalStateException.class, () -> x.correct(1, 0, 3));
            CHECKS.refused("corrected, for another", IllegalStateException.class, () -> x.correct(1, 0, 2));
            CHECKS.same("booked once", x.booked(0, 0), n);
            CHECKS.same("still nobody asked", x.differ(1, 0, 5), -1);
        }
    }

    private static void beyondTheRight() {
        int[] told = {5, 15};
        for (int n : told) {
            CountRounds x = Scenes.differing(10, n);
            x.right(3, 4);
            CHECKS.holds("asks", !x.correct(1, 0, 3));
            CHECKS.holds("asks again", !x.correct(1, 0, 3));
            CHECKS.same("booked as before", x.booked(0, 0), 10);
            CHECKS.same("not corrected", x.differ(1, 0, 4), 0);
            CHECKS.same("asked by 3", x.differ(1, 0, 5), 3);
        }
    }

    private static void theOtherNeedsNoRight() {
        for (int asker = 0; asker < 6; asker++) {
            CountRounds x = Scenes.differing(10, 5);
            int other = (asker + 1) % 6;
            CHECKS.holds("asks", !x.correct(1, 0, asker));
            CHECKS.holds("the other may", x.correct(1, 0, other));
            CHECKS.same("booked", x.booked(0, 0), 5);
            CHECKS.same("corrected", x.differ(1, 0, 4), 1);
            CHECKS.same("asked by the first", x.differ(1, 0, 5), asker);
        }
    }

    private static void aRightThatComesLater() {
        CountRounds x = Scenes.differing(10, 5);
        CHECKS.holds("asks", !x.correct(1, 0, 1));
        x.right(1, 5);
        CHECKS.holds("may alone now", x.correct(1, 0, 1));
        CHECKS.same("booked", x.booked(0, 0), 5);
        CHECKS.same("it was asked for", x.differ(1, 0, 5), 1);
    }

    private static void addsToWhatIsBooked() {
        CountRounds x = Scenes.withPlaces(0, 0);
        x.stock(0, 2, 10);
        x.stock(1, 2, 10);
        x.round(0, 2, 0);
        x.freeze(1);
        x.found(1, 0, 2, 7, 0);
        x.found(1, 1, 2, 12, 0);
        x.close(1);
        x.right(0, 1000000);
        x.stock(0, 2, 100);
        CHECKS.holds("the second difference", x.correct(1, 1, 0));
        CHECKS.same("place 1", x.booked(1, 2), 12);
        CHECKS.same("place 0 not yet", x.booked(0, 2), 100);
        CHECKS.holds("the first difference", x.correct(1, 0, 0));
        CHECKS.same("place 0", x.booked(0, 2), 97);
        CHECKS.same("place 1 as before", x.booked(1, 2), 12);
    }

    private static void staysInItsRange() {
        CountRounds x = Scenes.differing(10, 5);
        x.right(0, 5);
        x.stock(0, 0, 4);
        CHECKS.refused("below 0", IllegalStateException.class, () -> x.correct(1, 0, 0));
        CHECKS.same("booked as before", x.booked(0, 0), 4);
        CHECKS.same("not corrected", x.differ(1, 0, 4), 0);
        CHECKS.same("not asked for", x.differ(1, 0, 5), -1);
        x.stock(0, 0, 5);
        CHECKS.holds("to 0", x.correct(1, 0, 0));
        CHECKS.same("booked 0", x.booked(0, 0), 0);

        CountRounds y = Scenes.differing(5, 10);
        y.right(0, 5);
        y.stock(0, 0, 999996);
        CHECKS.refused("over the brim", IllegalStateException.class, () -> y.correct(1, 0, 0));
        y.stock(0, 0, 999995);
        CHECKS.holds("to the brim", y.correct(1, 0, 0));
        CHECKS.same("booked 1000000", y.booked(0, 0), 1000000);
    }

    private static void askingDoesNotLookAtTheRange() {
        CountRounds x = Scenes.differing(10, 5);
        x.stock(0, 0, 1);
        CHECKS.holds("asks", !x.correct(1, 0, 0));
        CHECKS.holds("asks again", !x.correct(1, 0, 0));
        CHECKS.refused("the other would", IllegalStateException.class, () -> x.correct(1, 0, 1));
        CHECKS.same("asked by the first still", x.differ(1, 0, 5), 0);
        x.stock(0, 0, 6);
        CHECKS.holds("the other may", x.correct(1, 0, 1));
        CHECKS.same("booked", x.booked(0, 0), 1);
    }

    private static void correctRefuses() {
        CountRounds x = Scenes.differing(10, 5);
        CHECKS.refused("count 0", NoSuchElementException.class, () -> x.correct(0, 0, 0));
        CHECKS.refused("count 2", NoSuchElementException.class, () -> x.correct(2, 0, 0));
        CHECKS.refused("difference -1", NoSuchElementException.class, () -> x.correct(1, -1, 0));
        CHECKS.refused("difference 1", NoSuchElementException.class, () -> x.correct(1, 1, 0));
        CHECKS.refused("person -1", IllegalArgumentException.class, () -> x.correct(1, 0, -1));
        CHECKS.refused("person 6", IllegalArgumentException.class, () -> x.correct(1, 0, 6));
        CHECKS.refused("difference before person", NoSuchElementException.class, () -> x.correct(1, 1, 6));
        CHECKS.same("not asked for", x.differ(1, 0, 5), -1);
        x.correct(1, 0, 0);
        x.correct(1, 0, 1);
        CHECKS.refused("person before corrected", IllegalArgumentException.class, () -> x.correct(1, 0, 6));
        CountRounds y = Scenes.frozen(1);
        y.found(1, 0, 0, 5, 0);
        CHECKS.refused("frozen", NoSuchElementException.class, () -> y.correct(1, 0, 0));
        CHECKS.refused("frozen before person", NoSuchElementException.class, () -> y.correct(1, 0, 6));
    }
}
