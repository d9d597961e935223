import java.lang.reflect.InvocationTargetException;
import java.lang.reflect.Method;
import java.util.Arrays;
import java.util.HashMap;
import java.util.Map;
import java.util.Random;
import java.util.Set;
import java.util.TreeSet;

/** Long runs of calls, each answer and each refusal compared with the Model's; the runs must meet every refusal of every call. */
public final class ModelTest {
    private static final int RUNS = 400;
    private static final int CALLS = 512;
    private static final int[] EDGES = {
        -1, 0, 1, 2, 3, 4, 7, 8, 9, 10, 19, 20, 39, 40, 41, 119, 120, 121, 399, 400, 1000, 1001, 36524, 36525, 99999,
        100000, 999999, 1000000, Integer.MIN_VALUE, Integer.MAX_VALUE,
    };
    // What each parameter is: g good, o owner, t last day, a arrival, l lot, u unit, c customer, p person, r reason,
    // b bin, d a day near these, i a place, D a date, T any day, y true or false, a digit: 0 up to that one.
    private static final String[] CALLS_OF_THE_FACE = {
        "lot gota", "rule o11", "rule o19", "wants c5", "right pry", "block lr", "release lp", "quarantine ly",
        "order goi", "allowed lcd", "split l", "join ll", "unit l", "put ub", "mixed 1", "ship ucd", "recall li",
        "where u3", "history li1", "told l7", "day 2D", "date 2T", "count 4",
    };

    private static final Map<String, Method> METHODS = new HashMap<>();

    private final int seed;
    private final Random random;
    private final LotRules rules = new LotRules();
    private final Model model = new Model();
    private final int goods;
    private final int days;
    private final int wrongOnceIn;
    private final int[] weights = new int[CALLS_OF_THE_FACE.length];

    private ModelTest(int seed) {
        this.seed = seed;
        random = new Random(seed);
        goods = 1 + random.nextInt(3);
        days = 1 + random.nextInt(12);
        wrongOnceIn = 5 + random.nextInt(60);
        for (int call = 0; call < weights.length; call++) {
            weights[call] = 1 + random.nextInt(10);
        }
        // Some runs are to reach the limits of lots and units.
        weights[random.nextInt(weights.length)] = 60;
    }

    public static void main(String[] args) throws IllegalAccessException {
        Map<String, Set<String>> met = new HashMap<>();
        for (int seed = 0; seed < RUNS; seed++) {
            new ModelTest(seed).run(met);
        }
        for (Method method : LotRules.class.getDeclaredMethods()) {
            for (Class<?> exception : method.getExceptionTypes()) {
                Check.holds("no run met " + exception.getSimpleName() + " of " + method.getName(),
                        met.get(method.getName()).contains(exception.getSimpleName()));
            }
        }
        Check.end();
    }

    private void run(Map<String, Set<String>> met) throws IllegalAccessException {
        // No 512 calls drawn at random write 400 rows, so every other run writes most of them on the way.
        int fillAt = seed % 2 == 0 ? CALLS : 20 + random.nextInt(80);
        int enough = 394 + random.nextInt(7);
        for (int call = 0; call < CALLS; call++) {
            int open = openLot();
            if (call >= fillAt && open != 0 && model.count(2) < enough) {
                compare(met, "quarantine", open, model.told(open, 6) == 0);
            } else {
                drawnCall(met);
            }
        }
    }

    private int openLot() {
        int lot = model.count(0);
        while (lot > 0 && model.told(lot, 4) == 0) {
            lot--;
        }
        return lot;
    }

    private void drawnCall(Map<String, Set<String>> met) throws IllegalAccessException {
        String[] call = CALLS_OF_THE_FACE[drawn()].split(" ");
        Object[] arguments = new Object[call[1].length()];
        for (int i = 0; i < arguments.length; i++) {
            arguments[i] = argument(call[1].charAt(i));
        }
        compare(met, call[0], arguments);
    }

    private void compare(Map<String, Set<String>> met, String name, Object... arguments) throws IllegalAccessException {
        String got = answer(rules, name, arguments);
        String due = answer(model, name, arguments);
        met.computeIfAbsent(name, key -> new TreeSet<>()).add(got);
        Check.holds("run " + seed + ": " + name + Arrays.toString(arguments) + " answered " + got + ", due is " + due,
                got.equals(due));
    }

    private int drawn() {
        int left = random.nextInt(Arrays.stream(weights).sum());
        int call = 0;
        while (left >= weights[call]) {
            left -= weights[call];
            call++;
        }
        return call;
    }

    private Object argument(char kind) {
        if (kind == 'y') {
            return random.nextBoolean();
        }
        if (random.nextInt(wrongOnceIn) == 0) {
            return EDGES[random.nextInt(EDGES.length)];
        }
        switch (kind) {
            case 'g':
                return random.nextInt(goods);
            case 'o':
                return random.nextInt(2);
            case 't':
                return 100 + days + random.nextInt(days) - random.nextInt(2);
            case 'a':
                return 100 + random.nextInt(days);
            case 'd':
                return 99 + random.nextInt(2 * days + 2);
            case 'l':
                return 1 + random.nextInt(Math.max(1, model.count(0)));
            case 'u':
                return 1 + random.nextInt(Math.max(1, model.count(1)));
            case 'c':
            case 'p':
                return random.nextInt(8);
            case 'r':
                return 1 + random.nextInt(3);
            case 'b':
                return random.nextInt(4);
            case 'i':
                return random.nextInt(8);
            case 'D':
                return random.nextInt(100) * (random.nextBoolean() ? 10000 : 1000) + random.nextInt(1400);
            case 'T':
                return random.nextInt(36525);
            default:
                return random.nextInt(kind - '0' + 1);
        }
    }

    private static String answer(Object of, String name, Object[] arguments) throws IllegalAccessException {
        try {
            return String.valueOf(methodOf(of.getClass(), name).invoke(of, arguments));
        } catch (InvocationTargetException e) {
            return e.getCause().getClass().getSimpleName();
        }
    }

    private static Method methodOf(Class<?> type, String name) {
        return METHODS.computeIfAbsent(type.getName() + "." + name, key -> Arrays.stream(type.getDeclaredMethods())
                .filter(method -> method.getName().equals(name))
                .findFirst()
                .orElseThrow());
    }
}
