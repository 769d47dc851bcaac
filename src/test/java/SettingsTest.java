/** Promises 4 (cycle), 5 (right), 6 (setting) and 7 (day). */
final class SettingsTest {
    private static final Checks CHECKS = new Checks("SettingsTest");

    public static void main(String[] args) {
        cyclesAtFirst();
        cycleIsOfItsClassAlone();
        tolerancesAtFirst();
        toleranceIsOfItsClassAlone();
        cycleRefuses();
        rightsAtFirst();
        rightIsOfItsPersonAlone();
        rightRefuses();
        settingSwitchesBothWays();
        settingRefuses();
        dayGoesOn();
        dayRefuses();
        CHECKS.end();
    }

    private static void cyclesAtFirst() {
        for (int kind = 0; kind < 3; kind++) {
            CountRounds x = Scenes.withPlaces(kind);
            Scenes.countOne(x, kind, 0);
            CHECKS.same("due on day 29", x.due(29), 0);
            CHECKS.same("due on day 30", x.due(30), 1);
        }
    }

    private static void cycleIsOfItsClassAlone() {
        CountRounds x = Scenes.withPlaces(0, 1, 2);
        for (int kind = 0; kind < 3; kind++) {
            Scenes.countOne(x, kind, 0);
        }
        x.cycle(1, 1, 0);
        CHECKS.same("due on day 0", x.due(0), 0);
        CHECKS.same("due on day 1", x.due(1), 1);
        x.cycle(2, 1000, 0);
        CHECKS.same("due on day 30", x.due(30), 2);
        CHECKS.same("due on day 999", x.due(999), 2);
        CHECKS.same("due on day 1000", x.due(1000), 3);
        x.cycle(1, 500, 0);
        CHECKS.same("due on day 499", x.due(499), 1);
    }

    private static void tolerancesAtFirst() {
        for (int kind = 0; kind < 3; kind++) {
            CountRounds x = Scenes.withPlaces(kind);
            Scenes.countOne(x, kind, 1);
            CHECKS.same("one piece is too many", x.share(0), 0);
        }
    }

    private static void toleranceIsOfItsClassAlone() {
        CountRounds x = Scenes.withPlaces(0, 1, 2);
        x.cycle(1, 30, 1000);
        x.cycle(2, 30, 1);
        Scenes.countOne(x, 1, 1000);
        CHECKS.same("1000 in class 1", x.share(0), 1);
        Scenes.countOne(x, 2, 2);
        Scenes.countOne(x, 0, 1);
        CHECKS.same("right ones", x.share(0), 1);
        CHECKS.same("of all", x.share(1), 3);
    }

    private static void cycleRefuses() {
        CountRounds x = Scenes.withPlaces(0);
        Scenes.countOne(x, 0, 0);
        x.cycle(0, 7, 5);
        int[][] wrong = {{-1, 1, 0}, {3, 1, 0}, {0, 0, 0}, {0, 1001, 0}, {0, -1, 0}, {0, 1, -1}, {0, 1, 1001}};
        for (int[] w : wrong) {
            CHECKS.refused("cycle " + w[0] + " " + w[1] + " " + w[2], IllegalArgumentException.class,
                    () -> x.cycle(w[0], w[1], w[2]));
        }
        CHECKS.same("cycle as before, day 6", x.due(6), 0);
        CHECKS.same("cycle as before, day 7", x.due(7), 1);
        Scenes.countOne(x, 0, 5);
        CHECKS.same("tolerance as before", x.share(0), 1);
        x.cycle(0, 1000, 1000);
        x.cycle(2, 1, 0);
    }

    private static void rightsAtFirst() {
        for (int person = 0; person < 6; person++) {
            CountRounds x = Scenes.differing(5, 4);
            CHECKS.holds("no right to one piece", !x.correct(1, 0, person));
        }
    }

    private static void rightIsOfItsPersonAlone() {
        for (int person = 0; person < 6; person++) {
            CountRounds x = Scenes.differing(5, 4);
            x.right(person, 1);
            CHECKS.holds("another has none", !x.correct(1, 0, (person + 1) % 6));
            CountRounds y = Scenes.differing(5, 4);
            y.right(person, 1);
            CHECKS.holds("a right to one piece", y.correct(1, 0, person));
        }
        CountRounds z = Scenes.differing(0, 1000000);
        z.right(3, 1000000);
        CHECKS.holds("the greatest right", z.correct(1, 0, 3));
    }

    private static void rightRefuses() {
        CountRounds x = Scenes.differing(5, 1);
        x.right(0, 4);
        CHECKS.refused("right of -1", IllegalArgumentException.class, () -> x.right(-1, 1));
        CHECKS.refused("right of 6", IllegalArgumentException.class, () -> x.right(6, 1));
        CHECKS.refused("right -1", IllegalArgumentException.class, () -> x.right(0, -1));
        CHECKS.refused("right 1000001", IllegalArgumentException.class, () -> x.right(0, 1000001));
        CHECKS.holds("right as before", x.correct(1, 0, 0));
        x.right(0, 0);
        x.right(5, 1000000);
    }

    private static void settingSwitchesBothWays() {
        CountRounds x = Scenes.withPlaces(0, 0, 1, 1);
        x.stock(0, 0, 2);
        x.stock(2, 0, 2);
        x.move(0, 1, 0, 1);
        x.move(2, 3, 0, 1);
        x.round(0, 2, 0);
        x.round(1, 2, 0);
        CHECKS.same("waits at first", x.freeze(1), 0);
        x.setting(1);
        x.setting(1);
        CHECKS.same("does not wait", x.freeze(1), 2);
        x.setting(0);
        CHECKS.same("waits again", x.freeze(2), 0);
    }

    private static void settingRefuses() {
        CountRounds x = Scenes.withPlaces(0, 0);
        x.stock(0, 0, 1);
        x.move(0, 1, 0, 1);
        x.round(0, 2, 0);
        int[] wrong = {-1, 2, Integer.MAX_VALUE, Integer.MIN_VALUE};
        for (int wait : wrong) {
            CHECKS.refused("setting " + wait, IllegalArgumentException.class, () -> x.setting(wait));
        }
        CHECKS.same("waits as before", x.freeze(1), 0);
    }

    private static void dayGoesOn() {
        CountRounds x = new CountRounds();
        int[] days = {0, 0, 1, 5, 5, 9999, 10000, 10000};
        for (int day : days) {
            x.day(day);
            CHECKS.same("the day", x.count(3), day);
        }
    }

    private static void dayRefuses() {
        CountRounds x = new CountRounds();
        CHECKS.refused("day -1", IllegalArgumentException.class, () -> x.day(-1));
        CHECKS.refused("day 10001", IllegalArgumentException.class, () -> x.day(10001));
        x.day(7);
        CHECKS.refused("day 6", IllegalStateException.class, () -> x.day(6));
        CHECKS.refused("day 0", IllegalStateException.class, () -> x.day(0));
        CHECKS.refused("day -1 after 7", IllegalArgumentException.class, () -> x.day(-1));
        CHECKS.same("the day as before", x.count(3), 7);
    }
}
