import java.util.NoSuchElementException;

/** Promises 15 (close) and 16 (differ). */
final class DifferencesTest {
    private static final Checks CHECKS = new Checks("DifferencesTest");

    public static void main(String[] args) {
        inThePlacesOrder();
        untoldGoodsOfAToldPlace();
        untoldPlaces();
        noDifferences();
        countsAreApart();
        closeRefuses();
        correctedAndAsked();
        differRefuses();
        CHECKS.end();
    }

    private static void difference(CountRounds x, int count, int i, int... due) {
        for (int what = 0; what < due.length; what++) {
            CHECKS.same("differ(" + count + ", " + i + ", " + what + ")", x.differ(count, i, what), due[what]);
        }
    }

    private static void inThePlacesOrder() {
        CountRounds x = Scenes.withPlaces(0, 0, 0);
        Scenes.countOne(x, 0, 0);
        x.stock(0, 4, 3);
        x.stock(1, 5, 8);
        x.stock(1, 1, 2);
        x.round(0, 3, 0);
        x.freeze(2);
        x.found(2, 0, 4, 4, 0);
        x.found(2, 1, 5, 6, 1);
        x.found(2, 1, 1, 2, 2);
        x.found(2, 1, 0, 5, 3);
        x.found(2, 2, 0, 1, 5);
        CHECKS.same("close", x.close(2), 4);
        CHECKS.same("state", x.told(2, 0), 2);
        difference(x, 2, 0, 1, 0, 5, 3, 0, -1);
        difference(x, 2, 1, 1, 5, -2, 1, 0, -1);
        difference(x, 2, 2, 2, 0, 1, 5, 0, -1);
        difference(x, 2, 3, 0, 4, 1, 0, 0, -1);
    }

    private static void untoldGoodsOfAToldPlace() {
        CountRounds x = Scenes.withPlaces(0);
        for (int good = 0; good < 6; good++) {
            x.stock(0, good, good * 2);
        }
        x.round(0, 1, 0);
        x.freeze(1);
        x.found(1, 0, 3, 6, 0);
        CHECKS.same("close", x.close(1), 4);
        difference(x, 1, 0, 0, 1, -2, -1, 0, -1);
        difference(x, 1, 1, 0, 2, -4, -1, 0, -1);
        difference(x, 1, 2, 0, 4, -8, -1, 0, -1);
        difference(x, 1, 3, 0, 5, -10, -1, 0, -1);
    }

    private static void untoldPlaces() {
        CountRounds x = Scenes.withPlaces(0, 0);
        x.stock(0, 0, 5);
        x.stock(1, 0, 6);
        x.round(0, 2, 0);
        x.freeze(1);
        x.found(1, 1, 0, 0, 2);
        CHECKS.same("close", x.close(1), 1);
        difference(x, 1, 0, 1, 0, -6, 2, 0, -1);
        CHECKS.same("place 0 was not counted", x.last(0), -1);
        CHECKS.same("place 1 was", x.last(1), 0);
    }

    private static void noDifferences() {
        CountRounds x = Scenes.withPlaces(0);
        x.stock(0, 0, 5);
        x.round(0, 1, 0);
        x.freeze(1);
        CHECKS.same("nothing told", x.close(1), 0);
        x.round(0, 1, 0);
        x.freeze(2);
        x.found(2, 0, 0, 5, 0);
        CHECKS.same("as noted", x.close(2), 0);
        CHECKS.refused("it has none", NoSuchElementException.class, () -> x.differ(2, 0, 0));
    }

    /** A tolerance excuses a difference, but there it is. */
    private static void countsAreApart() {
        CountRounds x = Scenes.withPlaces(0, 1);
        x.cycle(0, 30, 1000);
        Scenes.countOne(x, 0, 3);
        Scenes.countOne(x, 1, 4);
        difference(x, 1, 0, 0, 0, 3, 0, 0, -1);
        difference(x, 2, 0, 1, 0, 4, 0, 0, -1);
        x.correct(1, 0, 5);
        difference(x, 1, 0, 0, 0, 3, 0, 0, 5);
        difference(x, 2, 0, 1, 0, 4, 0, 0, -1);
    }

    private static void closeRefuses() {
        CountRounds x = Scenes.chosen(1);
        int[] wrong = {-1, 0, 2, 21};
        for (int count : wrong) {
            CHECKS.refused("close(" + count + ")", NoSuchElementException.class, () -> x.close(count));
        }
        CHECKS.refused("chosen", IllegalStateException.class, () -> x.close(1));
        x.freeze(1);
        x.close(1);
        CHECKS.refused("ended", IllegalStateException.class, () -> x.close(1));
    }

    private static void correctedAndAsked() {
        CountRounds x = Scenes.differing(5, 7);
        x.correct(1, 0, 3);
        difference(x, 1, 0, 0, 0, 2, 0, 0, 3);
        x.correct(1, 0, 4);
        difference(x, 1, 0, 0, 0, 2, 0, 1, 3);
        CountRounds y = Scenes.differing(5, 7);
        y.right(2, 2);
        y.correct(1, 0, 2);
        difference(y, 1, 0, 0, 0, 2, 0, 1, -1);
        y.stock(0, 0, 100);
        difference(y, 1, 0, 0, 0, 2, 0, 1, -1);
    }

    private static void differRefuses() {
        CountRounds x = Scenes.withPlaces(0);
        x.stock(0, 0, 5);
        x.round(0, 1, 0);
        CHECKS.refused("chosen", NoSuchElementException.class, () -> x.differ(1, 0, 0));
        x.freeze(1);
        x.found(1, 0, 0, 4, 0);
        CHECKS.refused("frozen", NoSuchElementException.class, () -> x.differ(1, 0, 0));
        CHECKS.refused("frozen before what", NoSuchElementException.class, () -> x.differ(1, 0, 6));
        x.close(1);
        CHECKS.refused("count 0", NoSuchElementException.class, () -> x.differ(0, 0, 0));
        CHECKS.refused("count 2", NoSuchElementException.class, () -> x.differ(2, 0, 0));
        CHECKS.refused("difference -1", NoSuchElementException.class, () -> x.differ(1, -1, 0));
        CHECKS.refused("difference 1", NoSuchElementException.class, () -> x.differ(1, 1, 0));
        CHECKS.refused("difference 1000", NoSuchElementException.class, () -> x.differ(1, 1000, 0));
        CHECKS.refused("what -1", IllegalArgumentException.class, () -> x.differ(1, 0, -1));
        CHECKS.refused("what 6", IllegalArgumentException.class, () -> x.differ(1, 0, 6));
        CHECKS.refused("difference before what", NoSuchElementException.class, () -> x.differ(1, 1, 6));
    }
}
