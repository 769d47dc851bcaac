import java.lang.reflect.InvocationTargetException;
import java.lang.reflect.Method;
import java.lang.reflect.Modifier;
import java.util.Arrays;
import java.util.HashMap;
import java.util.HashSet;
import java.util.List;
import java.util.Map;
import java.util.Random;
import java.util.Set;

/** All promises: long runs of calls, good ones and wild ones, against the plain model. */
final class ModelTest {
    private static final int RUNS = 3000;
    private static final int CALLS = 512;
    private static final String[] NAMES = {
        "place", "stock", "cycle", "right", "setting", "day", "move", "end", "moves", "round", "freeze", "found",
        "second", "close", "differ", "correct", "share", "last", "due", "booked", "told", "count"};
    // How often a call of each name comes: findings and corrections need many to get far.
    private static final int[] WEIGHTS = {6, 10, 2, 3, 1, 3, 6, 6, 2, 6, 6, 30, 8, 5, 14, 12, 4, 3, 3, 5, 8, 2};

    // Runs that never come to these would show little.
    private static final String[] OUTCOMES_TO_BE_MET = {
        "place UnsupportedOperationException", "move UnsupportedOperationException", "move IllegalStateException",
        "end IllegalStateException", "round UnsupportedOperationException", "round IllegalStateException",
        "freeze 0", "freeze IllegalStateException", "found 1", "found -1", "found -2", "found -3", "found -4",
        "second false", "second true", "second IllegalStateException", "close IllegalStateException", "correct false",
        "correct true", "correct IllegalStateException", "share ArithmeticException", "day IllegalStateException",
        "differ NoSuchElementException", "differ IllegalArgumentException", "told IllegalArgumentException"};

    private static final int[] WILD = {
        -1, 0, 1, 2, 3, 5, 6, 7, 9, 10, 19, 20, 21, 29, 30, 60, 61, 119, 120, 1000, 1001, 10000, 10001, 999999, 1000000,
        1000001, Integer.MAX_VALUE, Integer.MIN_VALUE};

    private static final Map<String, Method> PROGRAM_METHODS = methodsOf(CountRounds.class);
    private static final Map<String, Method> MODEL_METHODS = methodsOf(PlainModel.class);

    private final Checks checks;
    private final Set<String> outcomes;
    private final Random random;
    private final CountRounds program = new CountRounds();
    private final PlainModel model = new PlainModel();
    // Pieces lie close together in some runs, so that tolerances, rights and brims are met.
    private final int pieces;
    private final int wildness;
    private final int[] weights = WEIGHTS.clone();
    private final long[] a = new long[5];

    private ModelTest(Checks checks, Set<String> outcomes, int run) {
        this.checks = checks;
        this.outcomes = outcomes;
        random = new Random(run);
        pieces = run % 3 == 0 ? 4 : run % 3 == 1 ? 50 : 1000000;
        wildness = run % 5 == 0 ? 5 : 60;
        if (run % 7 == 1) {
            favour("stock", "move");
        } else if (run % 7 == 2) {
            favour("round", "freeze", "close", "end");
        }
    }

    /** Else no run would come to the 60th move or the 20th count. */
    private void favour(String... names) {
        for (String name : names) {
            weights[List.of(NAMES).indexOf(name)] += 80;
        }
    }

    public static void main(String[] args) {
        Checks checks = new Checks("ModelTest");
        Set<String> outcomes = new HashSet<>();
        for (int run = 0; run < RUNS; run++) {
            new ModelTest(checks, outcomes, run).go(run);
        }
        for (String outcome : OUTCOMES_TO_BE_MET) {
            checks.holds("it was met: " + outcome, outcomes.contains(outcome));
        }
        checks.end();
    }

    private void go(int run) {
        for (int i = 0; i < CALLS; i++) {
            String name = i < 8 ? "place" : NAMES[pick()];
            for (int k = 0; k < a.length; k++) {
                a[k] = argument(name, k);
            }
            String due = outcome(model, MODEL_METHODS.get(name));
            String got = outcome(program, PROGRAM_METHODS.get(name));
            outcomes.add(name + " " + due);
            if (!got.equals(due)) {
                checks.holds("run " + run + " call " + i + ": " + name + Arrays.toString(a)
                        + " answered " + got + ", by the model " + due + ", which", false);
                return;
            }
        }
    }

    private int pick() {
        int all = 0;
        for (int weight : weights) {
            all += weight;
        }
        int at = random.nextInt(all);
        int name = 0;
        while (at >= weights[name]) {
            at -= weights[name];
            name++;
        }
        return name;
    }

    private long argument(String name, int k) {
        if (random.nextInt(wildness) == 0) {
            return WILD[random.nextInt(WILD.length)];
        }
        switch (name + k) {
            case "place0": case "cycle0":
                return random.nextInt(3);
            case "stock0": case "move0": case "move1": case "moves0": case "found1": case "second1": case "last0":
            case "booked0":
                return random.nextInt(Math.max(1, model.count(0)));
            case "stock1": case "move2": case "found2": case "second2": case "booked1": case "right0": case "found4":
            case "correct2": case "differ2":
                return random.nextInt(6);
            case "stock2": case "found3": case "right1":
                return random.nextInt(10) == 0 ? 1000000 - random.nextInt(3) : random.nextInt(pieces + 1);
            case "move3":
                return 1 + random.nextInt(random.nextBoolean() ? 3 : pieces);
            case "cycle1":
                return 1 + random.nextInt(40);
            case "cycle2":
                return random.nextInt(Math.min(pieces, 1000));
            case "setting0": case "share0":
                return random.nextInt(2);
            case "day0":
                return Math.min(10000, model.count(3) + random.nextInt(12) - 1);
            case "due0":
                return Math.min(10000, model.count(3) + random.nextInt(50));
            case "end0":
                return 1 + random.nextInt(Math.max(1, model.count(1)));
            case "round0":
                return random.nextInt(4) - 1;
            case "round1":
                return 1 + random.nextInt(8);
            case "round2":
                return random.nextBoolean() ? 0 : random.nextLong();
            case "freeze0": case "found0": case "second0": case "close0": case "differ0": case "correct0": case "told0":
                return Math.max(1, model.count(2) - random.nextInt(4));
            case "differ1": case "correct1":
                return random.nextInt(random.nextBoolean() ? 3 : 12);
            case "told1":
                return random.nextBoolean() ? random.nextInt(3) : 10 + random.nextInt(21);
            default:
                return random.nextInt(6);
        }
    }

    /** The answer, or the name of the exception; what has no answer is "null". */
    private String outcome(Object x, Method method) {
        Object[] given = new Object[method.getParameterCount()];
        for (int k = 0; k < given.length; k++) {
            if (method.getParameterTypes()[k] == long.class) {
                given[k] = a[k];
            } else {
                given[k] = (int) a[k];
            }
        }
        try {
            return String.valueOf(method.invoke(x, given));
        } catch (InvocationTargetException e) {
            return e.getCause().getClass().getSimpleName();
        } catch (IllegalAccessException e) {
            return "no access: " + method;
        }
    }

    private static Map<String, Method> methodsOf(Class<?> type) {
        Map<String, Method> methods = new HashMap<>();
        for (Method method : type.getDeclaredMethods()) {
            if (!Modifier.isPrivate(method.getModifiers())) {
                methods.put(method.getName(), method);
            }
        }
        return methods;
    }
}
