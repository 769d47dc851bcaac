import java.util.NoSuchElementException;

/** Promises 8 (move), 9 (end) and 10 (moves). */
final class MovesTest {
    private static final Checks CHECKS = new Checks("MovesTest");

    public static void main(String[] args) {
        piecesGoAndCome();
        moveRefuses();
        moveRefusesInOrder();
        sixtyMoves();
        endRefuses();
        endFillsToTheBrim();
        movesAtPlaces();
        CHECKS.end();
    }

    private static void piecesGoAndCome() {
        CountRounds x = Scenes.withPlaces(0, 1, 2);
        x.stock(0, 3, 10);
        CHECKS.same("first move", x.move(0, 1, 3, 4), 1);
        CHECKS.same("gone from the one", x.booked(0, 3), 6);
        CHECKS.same("not yet at the other", x.booked(1, 3), 0);
        CHECKS.same("second move", x.move(0, 2, 3, 6), 2);
        CHECKS.same("all gone", x.booked(0, 3), 0);
        x.end(2);
        CHECKS.same("come", x.booked(2, 3), 6);
        CHECKS.same("the first is still open", x.booked(1, 3), 0);
        x.end(1);
        CHECKS.same("come too", x.booked(1, 3), 4);
        CHECKS.same("nothing came back", x.booked(0, 3), 0);
        CHECKS.same("of another good nothing", x.booked(1, 2), 0);
        x.stock(0, 0, 1000000);
        CHECKS.same("greatest move", x.move(0, 1, 0, 1000000), 3);
        x.end(3);
        CHECKS.same("greatest came", x.booked(1, 0), 1000000);
    }

    private static void moveRefuses() {
        CountRounds x = Scenes.withPlaces(0, 0);
        x.stock(0, 0, 5);
        CHECKS.refused("from -1", NoSuchElementException.class, () -> x.move(-1, 1, 0, 1));
        CHECKS.refused("from 2", NoSuchElementException.class, () -> x.move(2, 1, 0, 1));
        CHECKS.refused("to -1", NoSuchElementException.class, () -> x.move(0, -1, 0, 1));
        CHECKS.refused("to 2", NoSuchElementException.class, () -> x.move(0, 2, 0, 1));
        CHECKS.refused("the same place", IllegalArgumentException.class, () -> x.move(0, 0, 0, 1));
        CHECKS.refused("good -1", IllegalArgumentException.class, () -> x.move(0, 1, -1, 1));
        CHECKS.refused("good 6", IllegalArgumentException.class, () -> x.move(0, 1, 6, 1));
        CHECKS.refused("n 0", IllegalArgumentException.class, () -> x.move(0, 1, 0, 0));
        CHECKS.refused("n -1", IllegalArgumentException.class, () -> x.move(0, 1, 0, -1));
        CHECKS.refused("n 1000001", IllegalArgumentException.class, () -> x.move(0, 1, 0, 1000001));
        CHECKS.refused("one too many", IllegalStateException.class, () -> x.move(0, 1, 0, 6));
        CHECKS.refused("of another good", IllegalStateException.class, () -> x.move(0, 1, 1, 1));
        CHECKS.same("no move was made", x.count(1), 0);
        CHECKS.same("booked as before", x.booked(0, 0), 5);
        CHECKS.same("as many as there are", x.move(0, 1, 0, 5), 1);
    }

    private static void moveRefusesInOrder() {
        CountRounds x = Scenes.withPlaces(0, 0);
        CHECKS.refused("no place, wrong good", NoSuchElementException.class, () -> x.move(2, 1, 6, 0));
        CHECKS.refused("the same place that there is not", NoSuchElementException.class, () -> x.move(2, 2, 0, 1));
        CHECKS.refused("the same place, none booked", IllegalArgumentException.class, () -> x.move(1, 1, 0, 1));
        CHECKS.refused("wrong good, none booked", IllegalArgumentException.class, () -> x.move(0, 1, 6, 1));
        CHECKS.refused("wrong n, none booked", IllegalArgumentException.class, () -> x.move(0, 1, 0, 1000001));
    }

    private static void sixtyMoves() {
        CountRounds x = Scenes.withPlaces(0, 0);
        x.stock(0, 0, 61);
        for (int i = 1; i <= 60; i++) {
            CHECKS.same("move " + i, x.move(0, 1, 0, 1), i);
        }
        CHECKS.refused("no room", UnsupportedOperationException.class, () -> x.move(0, 1, 0, 1));
        CHECKS.refused("not booked before no room", IllegalStateException.class, () -> x.move(0, 1, 0, 2));
        CHECKS.same("the piece stays", x.booked(0, 0), 1);
        x.end(60);
        x.end(1);
        CHECKS.refused("ended ones keep their room", UnsupportedOperationException.class, () -> x.move(0, 1, 0, 1));
        CHECKS.refused("end 61", NoSuchElementException.class, () -> x.end(61));
        CHECKS.same("moves", x.count(1), 60);
        CHECKS.same("open moves", x.count(4), 58);
        CHECKS.same("come", x.booked(1, 0), 2);
    }

    private static void endRefuses() {
        CountRounds x = Scenes.withPlaces(0, 0);
        x.stock(0, 0, 5);
        x.move(0, 1, 0, 5);
        CHECKS.refused("end 0", NoSuchElementException.class, () -> x.end(0));
        CHECKS.refused("end 2", NoSuchElementException.class, () -> x.end(2));
        CHECKS.refused("end -1", NoSuchElementException.class, () -> x.end(-1));
        CHECKS.refused("end 61", NoSuchElementException.class, () -> x.end(61));
        x.end(1);
        CHECKS.refused("ended", IllegalStateException.class, () -> x.end(1));
        CHECKS.same("came once", x.booked(1, 0), 5);
    }

    private static void endFillsToTheBrim() {
        CountRounds x = Scenes.withPlaces(0, 0);
        x.stock(0, 0, 5);
        x.move(0, 1, 0, 5);
        x.stock(1, 0, 999996);
        CHECKS.refused("one over the brim", IllegalStateException.class, () -> x.end(1));
        CHECKS.same("not booked", x.booked(1, 0), 999996);
        CHECKS.same("still open", x.count(4), 1);
        x.stock(1, 0, 999995);
        x.end(1);
        CHECKS.same("at the brim", x.booked(1, 0), 1000000);
        CHECKS.same("ended", x.count(4), 0);
    }

    private static void movesAtPlaces() {
        CountRounds x = Scenes.withPlaces(0, 0, 0, 0);
        x.stock(0, 0, 10);
        x.stock(1, 1, 10);
        x.move(0, 1, 0, 1);
        x.move(1, 2, 1, 1);
        x.move(0, 2, 0, 1);
        int[] due = {2, 2, 2, 0};
        for (int place = 0; place < 4; place++) {
            CHECKS.same("moves(" + place + ")", x.moves(place), due[place]);
        }
        x.end(2);
        int[] after = {2, 1, 1, 0};
        for (int place = 0; place < 4; place++) {
            CHECKS.same("moves(" + place + ") after an end", x.moves(place), after[place]);
        }
        CHECKS.refused("moves(-1)", NoSuchElementException.class, () -> x.moves(-1));
        CHECKS.refused("moves(4)", NoSuchElementException.class, () -> x.moves(4));
    }
}
