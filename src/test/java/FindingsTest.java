import java.util.NoSuchElementException;

/** Promises 13 (found) and 14 (second). */
final class FindingsTest {
    private static final Checks CHECKS = new Checks("FindingsTest");

    public static void main(String[] args) {
        firstAndSecond();
        eachPlaceAndGoodByItself();
        notFrozen();
        breaksInOrder();
        foundRefuses();
        refusedFindingsLeaveNothing();
        secondIsWanted();
        secondFollowsTheTolerance();
        secondRefuses();
        CHECKS.end();
    }

    private static void firstAndSecond() {
        CountRounds x = Scenes.frozen(1);
        CHECKS.same("first", x.found(1, 0, 0, 7, 2), 1);
        CHECKS.same("the same person", x.found(1, 0, 0, 8, 2), -3);
        CHECKS.same("second", x.found(1, 0, 0, 9, 4), 1);
        CHECKS.same("a third", x.found(1, 0, 0, 5, 1), -4);
        CHECKS.same("the first person after two", x.found(1, 0, 0, 5, 2), -3);
        CHECKS.same("the second person after two", x.found(1, 0, 0, 5, 4), -3);
        CHECKS.same("findings", x.told(1, 2), 2);
        x.close(1);
        CHECKS.same("the second counts", x.differ(1, 0, 2), 9);
        CHECKS.same("its person", x.differ(1, 0, 3), 4);
    }

    private static void eachPlaceAndGoodByItself() {
        CountRounds x = Scenes.frozen(20);
        int told = 0;
        for (int place = 0; place < 20; place++) {
            for (int good = 0; good < 6; good++) {
                CHECKS.same("first", x.found(1, place, good, place * 10 + good + 1, 3), 1);
                told++;
            }
        }
        CHECKS.same("findings", x.told(1, 2), told);
        CHECKS.same("differences", x.close(1), told);
        for (int i = 0; i < told; i++) {
            CHECKS.same("place", x.differ(1, i, 0), i / 6);
            CHECKS.same("good", x.differ(1, i, 1), i % 6);
            CHECKS.same("difference", x.differ(1, i, 2), i / 6 * 10 + i % 6 + 1);
        }
    }

    private static void notFrozen() {
        CountRounds x = Scenes.chosen(1);
        CHECKS.same("chosen", x.found(1, 0, 0, 0, 0), -1);
        x.freeze(1);
        CHECKS.same("frozen", x.found(1, 0, 0, 0, 0), 1);
        x.close(1);
        CHECKS.same("ended", x.found(1, 0, 0, 0, 1), -1);
    }

    private static void breaksInOrder() {
        CountRounds x = Scenes.withPlaces(0, 1);
        x.round(0, 1, 0);
        CHECKS.same("not frozen, not in it", x.found(1, 1, 0, 0, 0), -1);
        x.freeze(1);
        CHECKS.same("not in it", x.found(1, 1, 0, 0, 0), -2);
        x.round(1, 1, 0);
        x.freeze(2);
        CHECKS.same("in another one", x.found(1, 1, 0, 0, 0), -2);
        CHECKS.same("in its own", x.found(2, 1, 0, 0, 0), 1);
    }

    private static void foundRefuses() {
        CountRounds x = Scenes.frozen(1);
        CHECKS.refused("count 0", NoSuchElementException.class, () -> x.found(0, 0, 0, 0, 0));
        CHECKS.refused("count 2", NoSuchElementException.class, () -> x.found(2, 0, 0, 0, 0));
        CHECKS.refused("place 1", NoSuchElementException.class, () -> x.found(1, 1, 0, 0, 0));
        CHECKS.refused("place -1", NoSuchElementException.class, () -> x.found(1, -1, 0, 0, 0));
        CHECKS.refused("good -1", IllegalArgumentException.class, () -> x.found(1, 0, -1, 0, 0));
        CHECKS.refused("good 6", IllegalArgumentException.class, () -> x.found(1, 0, 6, 0, 0));
        CHECKS.refused("n -1", IllegalArgumentException.class, () -> x.found(1, 0, 0, -1, 0));
        CHECKS.refused("n 1000001", IllegalArgumentException.class, () -> x.found(1, 0, 0, 1000001, 0));
        CHECKS.refused("person -1", IllegalArgumentException.class, () -> x.found(1, 0, 0, 0, -1));
        CHECKS.refused("person 6", IllegalArgumentException.class, () -> x.found(1, 0, 0, 0, 6));
        CHECKS.refused("place before good", NoSuchElementException.class, () -> x.found(1, 1, 6, 0, 0));
        CHECKS.refused("count before person", NoSuchElementException.class, () -> x.found(2, 0, 0, 0, 6));
        x.close(1);
        CHECKS.refused("person before not frozen", IllegalArgumentException.class, () -> x.found(1, 0, 0, 0, 6));
        CHECKS.refused("place before not frozen", NoSuchElementException.class, () -> x.found(1, 1, 0, 0, 0));
    }

    private static void refusedFindingsLeaveNothing() {
        CountRounds x = Scenes.frozen(1);
        CHECKS.refused("n -1", IllegalArgumentException.class, () -> x.found(1, 0, 0, -1, 0));
        CHECKS.same("no findings", x.told(1, 2), 0);
        CHECKS.same("greatest finding", x.found(1, 0, 0, 1000000, 5), 1);
        x.found(1, 0, 0, 1, 5);
        CHECKS.same("one finding", x.told(1, 2), 1);
        x.close(1);
        CHECKS.same("the first counts", x.differ(1, 0, 2), 1000000);
    }

    private static void secondIsWanted() {
        CountRounds x = Scenes.withPlaces(0);
        x.stock(0, 1, 10);
        x.round(0, 1, 0);
        x.freeze(1);
        CHECKS.holds("none told", !x.second(1, 0, 1));
        x.found(1, 0, 1, 9, 0);
        CHECKS.holds("one alone, too few", x.second(1, 0, 1));
        x.found(1, 0, 1, 8, 1);
        CHECKS.holds("two told", !x.second(1, 0, 1));
        x.found(1, 0, 2, 0, 0);
        CHECKS.holds("as noted", !x.second(1, 0, 2));
        x.found(1, 0, 3, 1, 0);
        CHECKS.holds("one alone, too many", x.second(1, 0, 3));
        CHECKS.holds("of another good none", !x.second(1, 0, 4));
    }

    private static void secondFollowsTheTolerance() {
        CountRounds x = Scenes.withPlaces(1, 2);
        x.stock(0, 0, 10);
        x.stock(1, 0, 10);
        x.round(1, 1, 0);
        x.round(2, 1, 0);
        x.freeze(1);
        x.freeze(2);
        x.cycle(1, 30, 3);
        x.found(1, 0, 0, 7, 0);
        x.found(2, 1, 0, 7, 0);
        CHECKS.holds("at the tolerance", !x.second(1, 0, 0));
        CHECKS.holds("of another class", x.second(2, 1, 0));
        x.cycle(1, 30, 2);
        CHECKS.holds("beyond it", x.second(1, 0, 0));
        x.cycle(2, 30, 4);
        CHECKS.holds("below it", !x.second(2, 1, 0));
        x.found(1, 0, 1, 2, 0);
        CHECKS.holds("at the tolerance upwards", !x.second(1, 0, 1));
        x.found(1, 0, 2, 3, 0);
        CHECKS.holds("beyond it upwards", x.second(1, 0, 2));
    }

    private static void secondRefuses() {
        CountRounds x = Scenes.withPlaces(0, 1);
        x.round(0, 1, 0);
        CHECKS.refused("count 0", NoSuchElementException.class, () -> x.second(0, 0, 0));
        CHECKS.refused("count 2", NoSuchElementException.class, () -> x.second(2, 0, 0));
        CHECKS.refused("place 1 is not in it", NoSuchElementException.class, () -> x.second(1, 1, 0));
        CHECKS.refused("place 2", NoSuchElementException.class, () -> x.second(1, 2, 0));
        CHECKS.refused("place -1", NoSuchElementException.class, () -> x.second(1, -1, 0));
        CHECKS.refused("good 6 before not frozen", IllegalArgumentException.class, () -> x.second(1, 0, 6));
        CHECKS.refused("good -1", IllegalArgumentException.class, () -> x.second(1, 0, -1));
        CHECKS.refused("place before good", NoSuchElementException.class, () -> x.second(1, 1, 6));
        CHECKS.refused("chosen", IllegalStateException.class, () -> x.second(1, 0, 0));
        x.freeze(1);
        CHECKS.refused("not in the frozen one", NoSuchElementException.class, () -> x.second(1, 1, 0));
        x.close(1);
        CHECKS.refused("ended", IllegalStateException.class, () -> x.second(1, 0, 0));
        CHECKS.refused("not in the ended one", NoSuchElementException.class, () -> x.second(1, 1, 0));
    }
}
