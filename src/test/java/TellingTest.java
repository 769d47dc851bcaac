import java.util.NoSuchElementException;

/** Promises 22 (told) and 23 (count). */
final class TellingTest {
    private static final Checks CHECKS = new Checks("TellingTest");

    public static void main(String[] args) {
        statesAndFindings();
        placesInTheirOrder();
        toldRefuses();
        counts();
        CHECKS.end();
    }

    private static void statesAndFindings() {
        CountRounds x = Scenes.withPlaces(0, 0, 1);
        x.round(0, 20, 0);
        x.round(1, 20, 0);
        CHECKS.same("chosen", x.told(1, 0), 0);
        CHECKS.same("places", x.told(1, 1), 2);
        CHECKS.same("no findings", x.told(1, 2), 0);
        x.freeze(1);
        CHECKS.same("frozen", x.told(1, 0), 1);
        x.found(1, 0, 0, 1, 0);
        x.found(1, 0, 0, 2, 1);
        x.found(1, 0, 0, 2, 2);
        x.found(1, 1, 5, 1, 0);
        x.found(1, 2, 0, 1, 0);
        CHECKS.same("findings, second ones too", x.told(1, 2), 3);
        x.close(1);
        CHECKS.same("ended", x.told(1, 0), 2);
        CHECKS.same("places still", x.told(1, 1), 2);
        CHECKS.same("findings still", x.told(1, 2), 3);
        CHECKS.same("the other is chosen", x.told(2, 0), 0);
        CHECKS.same("the other has no findings", x.told(2, 2), 0);
    }

    private static void placesInTheirOrder() {
        CountRounds x = Scenes.withPlaces(1, 0, 1, 0);
        x.round(0, 20, 0);
        CHECKS.same("first", x.told(1, 10), 1);
        CHECKS.same("second", x.told(1, 11), 3);
        int[] beyond = {12, 13, 29, 30, 31, 1000, Integer.MAX_VALUE};
        for (int what : beyond) {
            CHECKS.same("told(1, " + what + ")", x.told(1, what), -1);
        }
        CountRounds y = Scenes.chosen(20);
        CHECKS.same("the twentieth", y.told(1, 29), 19);
        CHECKS.same("no more", y.told(1, 30), -1);
    }

    private static void toldRefuses() {
        CountRounds x = Scenes.chosen(1);
        int[] counts = {-1, 0, 2, 20, 21};
        for (int count : counts) {
            CHECKS.refused("told(" + count + ", 0)", NoSuchElementException.class, () -> x.told(count, 0));
            CHECKS.refused("told(" + count + ", 3)", NoSuchElementException.class, () -> x.told(count, 3));
            CHECKS.refused("told(" + count + ", 99)", NoSuchElementException.class, () -> x.told(count, 99));
        }
        int[] whats = {-1, 3, 4, 5, 6, 7, 8, 9, Integer.MIN_VALUE};
        for (int what : whats) {
            CHECKS.refused("told(1, " + what + ")", IllegalArgumentException.class, () -> x.told(1, what));
        }
    }

    private static void counts() {
        CountRounds x = Scenes.withPlaces(0, 1, 2);
        x.day(77);
        x.stock(0, 0, 10);
        x.move(0, 1, 0, 1);
        x.move(0, 1, 0, 1);
        x.move(0, 2, 0, 1);
        x.end(2);
        x.round(0, 1, 0);
        x.round(1, 1, 0);
        int[] due = {3, 3, 2, 77, 2};
        for (int what = 0; what < due.length; what++) {
            CHECKS.same("count(" + what + ")", x.count(what), due[what]);
        }
        int[] others = {-1, 5, 6, 10, Integer.MIN_VALUE, Integer.MAX_VALUE};
        for (int what : others) {
            CHECKS.same("count(" + what + ")", x.count(what), -1);
        }
    }
}
