import java.util.NoSuchElementException;

/** Promises 1 (a new object), 2 (place), 3 (stock) and 21 (booked). */
final class PlacesTest {
    private static final Checks CHECKS = new Checks("PlacesTest");

    public static void main(String[] args) {
        newObjectHasNothing();
        placesAreNumbered();
        placeRefuses();
        stockIsBooked();
        stockRefuses();
        bookedRefuses();
        CHECKS.end();
    }

    private static void newObjectHasNothing() {
        CountRounds x = new CountRounds();
        for (int what = 0; what <= 4; what++) {
            CHECKS.same("new count(" + what + ")", x.count(what), 0);
        }
        CHECKS.same("new due(0)", x.due(0), 0);
        CHECKS.refused("new booked", NoSuchElementException.class, () -> x.booked(0, 0));
        CHECKS.refused("new last", NoSuchElementException.class, () -> x.last(0));
        CHECKS.refused("new end", NoSuchElementException.class, () -> x.end(1));
        CHECKS.refused("new told", NoSuchElementException.class, () -> x.told(1, 0));
        CHECKS.refused("new round", IllegalStateException.class, () -> x.round(-1, 1, 0));
        CHECKS.refused("new share", ArithmeticException.class, () -> x.share(0));
        x.day(0);
    }

    private static void placesAreNumbered() {
        CountRounds x = new CountRounds();
        for (int i = 0; i < 20; i++) {
            CHECKS.same("place " + i, x.place(i % 3), i);
            CHECKS.same("places", x.count(0), i + 1);
            for (int good = 0; good < 6; good++) {
                CHECKS.same("nothing booked", x.booked(i, good), 0);
            }
            CHECKS.same("never counted", x.last(i), -1);
        }
        x.round(2, 20, 0);
        CHECKS.same("places of class 2", x.told(1, 1), 6);
        CHECKS.same("first of class 2", x.told(1, 10), 2);
        CHECKS.refused("place 21", UnsupportedOperationException.class, () -> x.place(0));
        CHECKS.refused("place 21 of no class", IllegalArgumentException.class, () -> x.place(3));
        CHECKS.same("places after refusal", x.count(0), 20);
        CHECKS.refused("booked at place 20", NoSuchElementException.class, () -> x.booked(20, 0));
        CHECKS.refused("booked at place 21", NoSuchElementException.class, () -> x.booked(21, 0));
    }

    private static void placeRefuses() {
        CountRounds x = new CountRounds();
        int[] wrong = {-1, 3, Integer.MIN_VALUE, Integer.MAX_VALUE};
        for (int kind : wrong) {
            CHECKS.refused("place(" + kind + ")", IllegalArgumentException.class, () -> x.place(kind));
        }
        CHECKS.same("no place was made", x.count(0), 0);
    }

    private static void stockIsBooked() {
        CountRounds x = Scenes.withPlaces(0, 1);
        x.stock(0, 0, 7);
        x.stock(0, 5, 1000000);
        x.stock(1, 0, 9);
        CHECKS.same("booked(0, 0)", x.booked(0, 0), 7);
        CHECKS.same("booked(0, 5)", x.booked(0, 5), 1000000);
        CHECKS.same("booked(1, 0)", x.booked(1, 0), 9);
        CHECKS.same("booked(1, 5)", x.booked(1, 5), 0);
        x.stock(0, 0, 3);
        CHECKS.same("booked anew, not added", x.booked(0, 0), 3);
        x.stock(0, 0, 0);
        CHECKS.same("booked 0", x.booked(0, 0), 0);
    }

    private static void stockRefuses() {
        CountRounds x = Scenes.withPlaces(0);
        x.stock(0, 0, 4);
        CHECKS.refused("stock place 1", NoSuchElementException.class, () -> x.stock(1, 0, 1));
        CHECKS.refused("stock place -1", NoSuchElementException.class, () -> x.stock(-1, 0, 1));
        CHECKS.refused("stock good 6", IllegalArgumentException.class, () -> x.stock(0, 6, 1));
        CHECKS.refused("stock good -1", IllegalArgumentException.class, () -> x.stock(0, -1, 1));
        CHECKS.refused("stock -1", IllegalArgumentException.class, () -> x.stock(0, 0, -1));
        CHECKS.refused("stock 1000001", IllegalArgumentException.class, () -> x.stock(0, 0, 1000001));
        CHECKS.refused("place before good", NoSuchElementException.class, () -> x.stock(1, 6, -1));
        CHECKS.same("booked as before", x.booked(0, 0), 4);
    }

    private static void bookedRefuses() {
        CountRounds x = Scenes.withPlaces(0);
        CHECKS.refused("booked place 1", NoSuchElementException.class, () -> x.booked(1, 0));
        CHECKS.refused("booked place -1", NoSuchElementException.class, () -> x.booked(-1, 0));
        CHECKS.refused("booked place 20", NoSuchElementException.class, () -> x.booked(20, 0));
        CHECKS.refused("booked good 6", IllegalArgumentException.class, () -> x.booked(0, 6));
        CHECKS.refused("booked good -1", IllegalArgumentException.class, () -> x.booked(0, -1));
        CHECKS.refused("place before good", NoSuchElementException.class, () -> x.booked(1, 6));
    }
}
