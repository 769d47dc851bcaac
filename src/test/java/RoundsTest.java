import java.util.ArrayList;
import java.util.List;
import java.util.NoSuchElementException;

/** Promise 11 (round). */
final class RoundsTest {
    private static final Checks CHECKS = new Checks("RoundsTest");

    public static void main(String[] args) {
        placesOfAClass();
        asManyAsAskedAndThere();
        neverCountedFirst();
        longestAgoFirst();
        placesComeFreeWhenTheCountEnds();
        seedsChoose();
        seedThatBecomesNought();
        roundRefuses();
        twentyCounts();
        CHECKS.end();
    }

    private static void members(String what, CountRounds x, int count, int... due) {
        CHECKS.same(what + ": how many", x.told(count, 1), due.length);
        for (int i = 0; i < due.length; i++) {
            CHECKS.same(what + ": place " + i, x.told(count, 10 + i), due[i]);
        }
        CHECKS.same(what + ": state", x.told(count, 0), 0);
    }

    private static void placesOfAClass() {
        CountRounds x = Scenes.withPlaces(0, 1, 2, 1, 0, 2);
        CHECKS.same("count 1", x.round(1, 20, 0), 1);
        members("class 1", x, 1, 1, 3);
        CHECKS.same("count 2", x.round(-1, 3, 0), 2);
        members("all others", x, 2, 0, 2, 4);
        CHECKS.same("count 3", x.round(2, 20, 0), 3);
        members("class 2 that is left", x, 3, 5);
        CHECKS.refused("class 0 is all taken", IllegalStateException.class, () -> x.round(0, 1, 0));
        CHECKS.refused("all are taken", IllegalStateException.class, () -> x.round(-1, 1, 5));
    }

    private static void asManyAsAskedAndThere() {
        CountRounds x = Scenes.withPlaces(0, 0, 0);
        x.round(0, 1, 0);
        members("one asked", x, 1, 0);
        x.round(0, 20, 0);
        members("twenty asked, two left", x, 2, 1, 2);
    }

    private static void neverCountedFirst() {
        CountRounds x = Scenes.withPlaces(0, 0, 0, 0);
        Scenes.countOne(x, 0, 0);
        x.round(0, 3, 0);
        members("never counted ones, by number", x, 2, 1, 2, 3);
        CountRounds y = Scenes.withPlaces(0, 0, 0);
        Scenes.countOne(y, 0, 0);
        y.round(0, 3, 0);
        members("then the counted one, of day 0", y, 2, 1, 2, 0);
    }

    private static void longestAgoFirst() {
        CountRounds x = Scenes.withPlaces(0, 1, 2, 0);
        int[] kinds = {2, 0, 1};
        for (int i = 0; i < kinds.length; i++) {
            x.day(10 * i);
            Scenes.countOne(x, kinds[i], 0);
        }
        x.day(20);
        Scenes.countOne(x, 0, 0);
        CHECKS.same("last(0)", x.last(0), 10);
        CHECKS.same("last(3)", x.last(3), 20);
        x.round(-1, 20, 0);
        members("by day, then by number", x, 5, 2, 0, 1, 3);
    }

    private static void placesComeFreeWhenTheCountEnds() {
        CountRounds x = Scenes.chosen(2);
        CHECKS.refused("chosen", IllegalStateException.class, () -> x.round(0, 1, 0));
        x.freeze(1);
        CHECKS.refused("frozen", IllegalStateException.class, () -> x.round(0, 1, 0));
        x.close(1);
        CHECKS.same("ended", x.round(0, 2, 0), 2);
        members("both again", x, 2, 0, 1);
    }

    private static void seedsChoose() {
        long[] seeds = {1, -1, 2, 77, 12345, Long.MAX_VALUE, Long.MIN_VALUE, 1L << 33, -7, 0x1_0000_0000L};
        for (long seed : seeds) {
            for (int many = 1; many <= 20; many += 6) {
                CountRounds x = new CountRounds();
                for (int i = 0; i < 20; i++) {
                    x.place(i % 2);
                }
                x.round(1, many, seed);
                members("seed " + seed, x, 1, bySeed(many, seed, 1, 3, 5, 7, 9, 11, 13, 15, 17, 19));
                x.round(-1, many, seed);
                CHECKS.same("goes on", x.told(2, 1), Math.min(many, 20 - Math.min(many, 10)));
            }
        }
        CountRounds one = Scenes.withPlaces(2);
        one.round(2, 1, -5);
        members("one place", one, 1, 0);
    }

    /** Asked for the seed before the one that becomes 0: the seed 0 midway must not mean the order by rank. */
    private static void seedThatBecomesNought() {
        long seed = -1442695040888963407L * inverse(6364136223846793005L);
        CHECKS.same("it becomes 0", seed * 6364136223846793005L + 1442695040888963407L, 0);
        CountRounds x = Scenes.withPlaces(0, 0, 0, 0, 0, 0, 0);
        x.round(0, 7, seed);
        members("seed to 0", x, 1, bySeed(7, seed, 0, 1, 2, 3, 4, 5, 6));
    }

    private static long inverse(long odd) {
        long y = odd;
        for (int i = 0; i < 6; i++) {
            y *= 2 - odd * y;
        }
        return y;
    }

    private static int[] bySeed(int many, long seed, int... places) {
        List<Integer> left = new ArrayList<>();
        for (int place : places) {
            left.add(place);
        }
        int[] chosen = new int[Math.min(many, places.length)];
        long x = seed;
        for (int i = 0; i < chosen.length; i++) {
            x = x * 6364136223846793005L + 1442695040888963407L;
            chosen[i] = left.remove((int) Long.remainderUnsigned(x >>> 33, left.size()));
        }
        return chosen;
    }

    private static void roundRefuses() {
        CountRounds x = new CountRounds();
        int[][] wrong = {{-2, 1}, {3, 1}, {0, 0}, {0, 21}, {0, -1}, {-1, 21}, {Integer.MIN_VALUE, 1}};
        for (int[] w : wrong) {
            for (long seed = 0; seed < 2; seed++) {
                long s = seed;
                CHECKS.refused("round " + w[0] + " " + w[1], IllegalArgumentException.class,
                        () -> x.round(w[0], w[1], s));
            }
        }
        CHECKS.refused("no place at all", IllegalStateException.class, () -> x.round(-1, 1, 0));
        x.place(0);
        CHECKS.refused("no place of class 1", IllegalStateException.class, () -> x.round(1, 1, 0));
        CHECKS.same("no count was made", x.count(2), 0);
        CHECKS.same("the place is free", x.round(0, 20, 0), 1);
    }

    private static void twentyCounts() {
        CountRounds x = Scenes.withPlaces(0, 1);
        for (int i = 1; i <= 20; i++) {
            CHECKS.same("count " + i, x.round(0, 1, i % 2), i);
            x.freeze(i);
            x.close(i);
        }
        CHECKS.refused("no room", UnsupportedOperationException.class, () -> x.round(0, 1, 0));
        CHECKS.refused("no place before no room", IllegalStateException.class, () -> x.round(2, 1, 0));
        CHECKS.refused("no class before no room", IllegalArgumentException.class, () -> x.round(3, 1, 0));
        CHECKS.refused("no room again: nothing was taken", UnsupportedOperationException.class, () -> x.round(0, 1, 0));
        CHECKS.same("counts", x.count(2), 20);
        CHECKS.refused("count 21", NoSuchElementException.class, () -> x.told(21, 0));
    }
}
