import java.util.ArrayList;
import java.util.Comparator;
import java.util.HashMap;
import java.util.LinkedHashMap;
import java.util.List;
import java.util.Map;
import java.util.NoSuchElementException;

/**
 * The document's terms a second time, in lists and maps of the Java library and without a thought for room:
 * it shares no line with the program, so that a slip in one of them shows as a difference.
 */
final class PlainModel {
    private record Line(int place, int good) {
    }

    private record Finding(int person, int n) {
    }

    private record Move(int from, int to, int good, int n) {
    }

    private static final class Difference {
        final Line line;
        final int amount;
        final int finder;
        boolean corrected;
        Integer asker;

        Difference(Line line, int amount, int finder) {
            this.line = line;
            this.amount = amount;
            this.finder = finder;
        }
    }

    private static final class Count {
        int state;
        List<Integer> places = new ArrayList<>();
        Map<Line, Integer> noted = new HashMap<>();
        Map<Line, List<Finding>> findings = new LinkedHashMap<>();
        List<Difference> differences = new ArrayList<>();
    }

    private final List<Integer> kinds = new ArrayList<>();
    private final Map<Line, Integer> booked = new HashMap<>();
    private final Map<Integer, Integer> counted = new HashMap<>();
    private final List<Move> moves = new ArrayList<>();
    private final List<Integer> open = new ArrayList<>();
    private final List<Count> counts = new ArrayList<>();
    private final List<Boolean> verdicts = new ArrayList<>();
    private final Map<Integer, Integer> cycles = new HashMap<>();
    private final Map<Integer, Integer> tolerances = new HashMap<>();
    private final Map<Integer, Integer> rights = new HashMap<>();
    private int setting;
    private int day;

    private static void range(int n, int least, int most) {
        if (n < least || n > most) {
            throw new IllegalArgumentException();
        }
    }

    private static void state(boolean fits) {
        if (!fits) {
            throw new IllegalStateException();
        }
    }

    private static void room(boolean is) {
        if (!is) {
            throw new UnsupportedOperationException();
        }
    }

    private void exists(boolean is) {
        if (!is) {
            throw new NoSuchElementException();
        }
    }

    private void placeExists(int place) {
        exists(place >= 0 && place < kinds.size());
    }

    private Count countOf(int count) {
        exists(count >= 1 && count <= counts.size());
        return counts.get(count - 1);
    }

    private int bookedAt(Line line) {
        return booked.getOrDefault(line, 0);
    }

    private int tolerance(int place) {
        return tolerances.getOrDefault(kinds.get(place), 0);
    }

    int place(int kind) {
        range(kind, 0, 2);
        room(kinds.size() < 20);
        kinds.add(kind);
        return kinds.size() - 1;
    }

    void stock(int place, int good, int n) {
        placeExists(place);
        range(good, 0, 5);
        range(n, 0, 1000000);
        booked.put(new Line(place, good), n);
    }

    void cycle(int kind, int days, int tolerance) {
        range(kind, 0, 2);
        range(days, 1, 1000);
        range(tolerance, 0, 1000);
        cycles.put(kind, days);
        tolerances.put(kind, tolerance);
    }

    void right(int person, int n) {
        range(person, 0, 5);
        range(n, 0, 1000000);
        rights.put(person, n);
    }

    void setting(int wait) {
        range(wait, 0, 1);
        setting = wait;
    }

    void day(int next) {
        range(next, 0, 10000);
        state(next >= day);
        day = next;
    }

    int move(int from, int to, int good, int n) {
        placeExists(from);
        placeExists(to);
        range(good, 0, 5);
        range(n, 1, 1000000);
        if (from == to) {
            throw new IllegalArgumentException();
        }
        Line source = new Line(from, good);
        state(bookedAt(source) >= n);
        room(moves.size() < 60);
        booked.put(source, bookedAt(source) - n);
        moves.add(new Move(from, to, good, n));
        open.add(moves.size());
        return moves.size();
    }

    void end(int move) {
        exists(move >= 1 && move <= moves.size());
        state(open.contains(move));
        Move m = moves.get(move - 1);
        Line target = new Line(m.to, m.good);
        state(bookedAt(target) + m.n <= 1000000);
        booked.put(target, bookedAt(target) + m.n);
        open.remove(Integer.valueOf(move));
    }

    int moves(int place) {
        placeExists(place);
        int many = 0;
        for (int number : open) {
            Move m = moves.get(number - 1);
            if (m.from == place || m.to == place) {
                many++;
            }
        }
        return many;
    }

    int round(int kind, int many, long seed) {
        range(kind, -1, 2);
        range(many, 1, 20);
        List<Integer> left = new ArrayList<>();
        for (int place = 0; place < kinds.size(); place++) {
            int number = place;
            boolean taken = counts.stream().anyMatch(c -> c.state != 2 && c.places.contains(number));
            if (!taken && (kind == -1 || kinds.get(place) == kind)) {
                left.add(place);
            }
        }
        state(!left.isEmpty());
        room(counts.size() < 20);
        if (seed == 0) {
            left.sort(Comparator.comparing((Integer p) -> counted.containsKey(p))
                    .thenComparing(p -> counted.getOrDefault(p, 0)).thenComparing(p -> p));
        }
        Count count = new Count();
        long x = seed;
        while (count.places.size() < many && !left.isEmpty()) {
            x = x * 6364136223846793005L + 1442695040888963407L;
            count.places.add(left.remove(seed == 0 ? 0 : (int) ((x >>> 33) % left.size())));
        }
        counts.add(count);
        return counts.size();
    }

    int freeze(int number) {
        Count count = countOf(number);
        state(count.state == 0);
        if (setting == 0 && count.places.stream().anyMatch(p -> moves(p) > 0)) {
            return 0;
        }
        for (int place : count.places) {
            for (int good = 0; good < 6; good++) {
                Line line = new Line(place, good);
                int n = bookedAt(line);
                for (int move : open) {
                    Move m = moves.get(move - 1);
                    n += m.to == place && m.good == good ? m.n : 0;
                }
                count.noted.put(line, n);
            }
        }
        count.state = 1;
        return count.places.size();
    }

    int found(int number, int place, int good, int n, int person) {
        Count count = countOf(number);
        placeExists(place);
        range(good, 0, 5);
        range(n, 0, 1000000);
        range(person, 0, 5);
        if (count.state != 1) {
            return -1;
        }
        if (!count.places.contains(place)) {
            return -2;
        }
        List<Finding> told = count.findings.computeIfAbsent(new Line(place, good), l -> new ArrayList<>());
        if (told.stream().anyMatch(f -> f.person == person)) {
            return -3;
        }
        if (told.size() == 2) {
            return -4;
        }
        told.add(new Finding(person, n));
        return 1;
    }

    boolean second(int number, int place, int good) {
        Count count = countOf(number);
        exists(count.places.contains(place));
        range(good, 0, 5);
        state(count.state == 1);
        Line line = new Line(place, good);
        List<Finding> told = count.findings.getOrDefault(line, List.of());
        return told.size() == 1 && Math.abs(told.get(0).n - count.noted.get(line)) > tolerance(place);
    }

    int close(int number) {
        Count count = countOf(number);
        state(count.state == 1);
        count.state = 2;
        for (int place : count.places) {
            if (count.findings.keySet().stream().anyMatch(l -> l.place == place)) {
                endPlace(count, place);
            }
        }
        return count.differences.size();
    }

    private void endPlace(Count count, int place) {
        boolean right = true;
        for (int good = 0; good < 6; good++) {
            Line line = new Line(place, good);
            List<Finding> told = count.findings.getOrDefault(line, List.of());
            Finding counts = told.isEmpty() ? new Finding(-1, 0) : told.get(told.size() - 1);
            int amount = counts.n - count.noted.get(line);
            if (amount != 0) {
                count.differences.add(new Difference(line, amount, counts.person));
            }
            right &= Math.abs(amount) <= tolerance(place);
        }
        counted.put(place, day);
        verdicts.add(right);
    }

    private Difference differenceOf(int count, int i) {
        List<Difference> all = countOf(count).differences;
        exists(i >= 0 && i < all.size());
        return all.get(i);
    }

    int differ(int count, int i, int what) {
        Difference d = differenceOf(count, i);
        range(what, 0, 5);
        int[] all = {d.line.place, d.line.good, d.amount, d.finder, d.corrected ? 1 : 0, d.asker == null ? -1 : d.asker};
        return all[what];
    }

    boolean correct(int count, int i, int person) {
        Difference d = differenceOf(count, i);
        range(person, 0, 5);
        state(!d.corrected);
        boolean alone = rights.getOrDefault(person, 0) >= Math.abs(d.amount);
        if (!alone && (d.asker == null || d.asker == person)) {
            d.asker = person;
            return false;
        }
        int after = bookedAt(d.line) + d.amount;
        state(after >= 0 && after <= 1000000);
        booked.put(d.line, after);
        d.corrected = true;
        return true;
    }

    int share(int side) {
        range(side, 0, 1);
        int all = verdicts.size();
        int right = (int) verdicts.stream().filter(v -> v).count();
        if (all == 0) {
            throw new ArithmeticException();
        }
        for (int d = all; d > 1; d--) {
            if (all % d == 0 && right % d == 0) {
                all /= d;
                right /= d;
            }
        }
        return side == 0 ? right : all;
    }

    int last(int place) {
        placeExists(place);
        return counted.getOrDefault(place, -1);
    }

    int due(int at) {
        range(at, 0, 10000);
        int many = 0;
        for (int place = 0; place < kinds.size(); place++) {
            Integer last = counted.get(place);
            many += last == null || at - last >= cycles.getOrDefault(kinds.get(place), 30) ? 1 : 0;
        }
        return many;
    }

    int booked(int place, int good) {
        placeExists(place);
        range(good, 0, 5);
        return bookedAt(new Line(place, good));
    }

    int told(int number, int what) {
        Count count = countOf(number);
        if (what >= 10) {
            return what - 10 < count.places.size() ? count.places.get(what - 10) : -1;
        }
        range(what, 0, 2);
        int findings = count.findings.values().stream().mapToInt(List::size).sum();
        return what == 0 ? count.state : what == 1 ? count.places.size() : findings;
    }

    int count(int what) {
        int[] all = {kinds.size(), moves.size(), counts.size(), day, open.size()};
        return what >= 0 && what < all.length ? all[what] : -1;
    }
}
