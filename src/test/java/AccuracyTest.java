import java.util.NoSuchElementException;

/** Promises 18 (share), 19 (last) and 20 (due). */
final class AccuracyTest {
    private static final Checks CHECKS = new Checks("AccuracyTest");

    public static void main(String[] args) {
        sharesInLowestTerms();
        toleranceAsItIsThen();
        everyGoodMustBeRight();
        shareRefuses();
        lastDay();
        lastRefuses();
        dueDays();
        dueRefuses();
        CHECKS.end();
    }

    private static void share(String what, CountRounds x, int upper, int lower) {
        CHECKS.same(what + ": upper", x.share(0), upper);
        CHECKS.same(what + ": lower", x.share(1), lower);
    }

    /** Counts all 20 places at once, the first so many of them right. */
    private static void countAll(CountRounds x, int right) {
        int count = x.round(0, 20, 0);
        x.freeze(count);
        for (int place = 0; place < 20; place++) {
            x.found(count, place, 0, place < right ? 0 : 1, 0);
        }
        x.close(count);
    }

    private static void sharesInLowestTerms() {
        int[][] due = {{0, 0, 1}, {1, 1, 20}, {2, 1, 10}, {3, 3, 20}, {8, 2, 5}, {12, 3, 5}, {15, 3, 4}, {19, 19, 20}, {20, 1, 1}};
        for (int[] d : due) {
            CountRounds x = Scenes.withPlaces(new int[20]);
            countAll(x, d[0]);
            share(d[0] + " of 20", x, d[1], d[2]);
        }
        CountRounds y = Scenes.withPlaces(new int[20]);
        int right = 0;
        for (int i = 1; i <= 20; i++) {
            countAll(y, i);
            right += i;
        }
        CHECKS.same("times", right, 210);
        share("210 of 400", y, 21, 40);
    }

    private static void toleranceAsItIsThen() {
        CountRounds x = Scenes.withPlaces(0);
        x.cycle(0, 30, 5);
        Scenes.countOne(x, 0, 5);
        share("at the tolerance", x, 1, 1);
        Scenes.countOne(x, 0, 6);
        share("beyond it", x, 1, 2);
        x.cycle(0, 30, 6);
        share("a later tolerance changes nothing", x, 1, 2);
        x.stock(0, 0, 10);
        Scenes.countOne(x, 0, 4);
        share("downwards at it", x, 2, 3);
        Scenes.countOne(x, 0, 3);
        share("downwards beyond it", x, 1, 2);
        x.round(0, 1, 0);
        x.freeze(5);
        x.found(5, 0, 0, 3, 0);
        x.cycle(0, 30, 7);
        x.close(5);
        share("as it is when the count ends", x, 3, 5);
        x.round(0, 1, 0);
        x.freeze(6);
        x.close(6);
        share("nothing told is not counted", x, 3, 5);
        x.correct(2, 0, 0);
        x.correct(2, 0, 1);
        share("correcting changes nothing", x, 3, 5);
    }

    private static void everyGoodMustBeRight() {
        for (int good = 0; good < 6; good++) {
            CountRounds x = Scenes.withPlaces(0);
            x.cycle(0, 30, 2);
            for (int other = 0; other < 6; other++) {
                x.stock(0, other, 2);
            }
            x.stock(0, good, 3);
            x.round(0, 1, 0);
            x.freeze(1);
            x.found(1, 0, (good + 1) % 6, 2, 0);
            CHECKS.same("differences", x.close(1), 5);
            share("an untold good is beyond it", x, 0, 1);
        }
    }

    private static void shareRefuses() {
        CountRounds x = Scenes.withPlaces(0);
        CHECKS.refused("upper of none", ArithmeticException.class, () -> x.share(0));
        CHECKS.refused("lower of none", ArithmeticException.class, () -> x.share(1));
        CHECKS.refused("side before none", IllegalArgumentException.class, () -> x.share(2));
        Scenes.countOne(x, 0, 0);
        int[] wrong = {-1, 2, Integer.MIN_VALUE, Integer.MAX_VALUE};
        for (int side : wrong) {
            CHECKS.refused("share(" + side + ")", IllegalArgumentException.class, () -> x.share(side));
        }
    }

    private static void lastDay() {
        CountRounds x = Scenes.withPlaces(0, 1);
        CHECKS.same("never", x.last(0), -1);
        x.day(5);
        x.round(0, 1, 0);
        x.freeze(1);
        x.found(1, 0, 0, 0, 0);
        CHECKS.same("not yet", x.last(0), -1);
        x.day(8);
        x.close(1);
        x.day(9);
        CHECKS.same("the day on which the count ended", x.last(0), 8);
        CHECKS.same("the other one", x.last(1), -1);
        x.round(0, 1, 0);
        x.freeze(2);
        x.close(2);
        CHECKS.same("nothing was told", x.last(0), 8);
        Scenes.countOne(x, 0, 7);
        CHECKS.same("counted anew, though wrong", x.last(0), 9);
    }

    private static void lastRefuses() {
        CountRounds x = Scenes.withPlaces(0);
        CHECKS.refused("last(-1)", NoSuchElementException.class, () -> x.last(-1));
        CHECKS.refused("last(1)", NoSuchElementException.class, () -> x.last(1));
        CHECKS.refused("last(20)", NoSuchElementException.class, () -> x.last(20));
    }

    private static void dueDays() {
        CountRounds x = Scenes.withPlaces(0, 1, 1);
        CHECKS.same("all", x.due(0), 3);
        x.day(100);
        Scenes.countOne(x, 0, 0);
        CHECKS.same("never counted ones on day 0", x.due(0), 2);
        CHECKS.same("day 129", x.due(129), 2);
        CHECKS.same("day 130", x.due(130), 3);
        CHECKS.same("day 10000", x.due(10000), 3);
        x.cycle(0, 1, 0);
        CHECKS.same("the day itself", x.due(100), 2);
        CHECKS.same("the next one", x.due(101), 3);
        x.round(0, 1, 0);
        CHECKS.same("one in a count is due too", x.due(101), 3);
    }

    private static void dueRefuses() {
        CountRounds x = Scenes.withPlaces(0);
        int[] wrong = {-1, 10001, Integer.MIN_VALUE, Integer.MAX_VALUE};
        for (int day : wrong) {
            CHECKS.refused("due(" + day + ")", IllegalArgumentException.class, () -> x.due(day));
        }
        x.day(50);
        CHECKS.same("an earlier day may be asked", x.due(3), 1);
    }
}
