import java.util.NoSuchElementException;

/** Promise 12 (freeze). */
final class FreezeTest {
    private static final Checks CHECKS = new Checks("FreezeTest");

    public static void main(String[] args) {
        answersHowManyPlaces();
        waitsForMovesAtItsPlacesAlone();
        doesNotWaitAndNotesWhatComes();
        notesOnceAndForAll();
        notesMoreThanMayBeBooked();
        freezeRefuses();
        CHECKS.end();
    }

    /** What was noted, seen from outside: the difference to a finding of 0. */
    private static int noted(CountRounds x, int count, int place, int good) {
        x.found(count, place, good, 0, 0);
        int many = x.close(count);
        for (int i = 0; i < many; i++) {
            if (x.differ(count, i, 0) == place && x.differ(count, i, 1) == good) {
                return -x.differ(count, i, 2);
            }
        }
        return 0;
    }

    private static void answersHowManyPlaces() {
        int[] sizes = {1, 2, 20};
        for (int size : sizes) {
            CountRounds x = Scenes.chosen(size);
            CHECKS.same("freeze", x.freeze(1), size);
            CHECKS.same("state", x.told(1, 0), 1);
        }
    }

    private static void waitsForMovesAtItsPlacesAlone() {
        CountRounds x = Scenes.withPlaces(0, 0, 1, 1, 2);
        x.stock(0, 0, 9);
        x.stock(2, 0, 9);
        x.move(0, 2, 0, 1);
        x.round(0, 20, 0);
        x.round(1, 20, 0);
        x.round(2, 20, 0);
        CHECKS.same("a move from it is open", x.freeze(1), 0);
        CHECKS.same("a move to it is open", x.freeze(2), 0);
        CHECKS.same("no move is open at it", x.freeze(3), 1);
        CHECKS.same("waits", x.told(1, 0), 0);
        CHECKS.same("waits again", x.freeze(1), 0);
        x.end(1);
        x.stock(0, 0, 7);
        CHECKS.same("no longer", x.freeze(1), 2);
        CHECKS.same("notes what is booked when it is frozen", noted(x, 1, 0, 0), 7);
        CHECKS.same("no longer either", x.freeze(2), 2);
        CHECKS.same("what came", noted(x, 2, 2, 0), 10);
    }

    private static void doesNotWaitAndNotesWhatComes() {
        CountRounds x = Scenes.withPlaces(0, 1);
        x.stock(0, 2, 50);
        x.stock(1, 2, 8);
        x.move(0, 1, 2, 5);
        x.move(0, 1, 2, 6);
        x.move(0, 1, 2, 20);
        x.end(3);
        x.setting(1);
        x.round(0, 1, 0);
        x.round(1, 1, 0);
        CHECKS.same("freeze(1)", x.freeze(1), 1);
        CHECKS.same("freeze(2)", x.freeze(2), 1);
        CHECKS.same("what goes is gone", noted(x, 1, 0, 2), 19);
        CHECKS.same("what comes is noted", noted(x, 2, 1, 2), 39);
    }

    private static void notesOnceAndForAll() {
        CountRounds x = Scenes.withPlaces(0, 0);
        x.stock(0, 0, 30);
        x.stock(1, 0, 4);
        x.round(0, 2, 0);
        x.stock(0, 0, 20);
        x.freeze(1);
        x.stock(0, 0, 10);
        x.move(0, 1, 0, 3);
        x.end(1);
        x.found(1, 0, 0, 20, 1);
        x.found(1, 1, 0, 4, 1);
        CHECKS.same("no differences to what was noted", x.close(1), 0);
    }

    private static void notesMoreThanMayBeBooked() {
        CountRounds x = Scenes.withPlaces(0, 1);
        x.setting(1);
        for (int i = 0; i < 60; i++) {
            x.stock(0, 5, 1000000);
            x.move(0, 1, 5, 1000000);
        }
        x.stock(1, 5, 1000000);
        x.round(1, 1, 0);
        x.freeze(1);
        CHECKS.same("noted", noted(x, 1, 1, 5), 61000000);
        CHECKS.same("difference", x.differ(1, 0, 2), -61000000);
    }

    private static void freezeRefuses() {
        CountRounds x = Scenes.chosen(1);
        int[] wrong = {-1, 0, 2, 20, 21, Integer.MAX_VALUE, Integer.MIN_VALUE};
        for (int count : wrong) {
            CHECKS.refused("freeze(" + count + ")", NoSuchElementException.class, () -> x.freeze(count));
        }
        x.freeze(1);
        CHECKS.refused("frozen", IllegalStateException.class, () -> x.freeze(1));
        x.close(1);
        CHECKS.refused("ended", IllegalStateException.class, () -> x.freeze(1));
    }
}
