import java.lang.reflect.InvocationTargetException;
import java.lang.reflect.Method;
import java.lang.reflect.Modifier;
import java.util.Arrays;
import java.util.Comparator;
import java.util.Random;

/** Any calls with any arguments: only the exceptions that a method names come, and what is refused changes nothing. */
public final class RandomCallsTest {
    private static final int[] EDGES = {
        -1, 0, 1, 2, 3, 7, 8, 9, 10, 19, 20, 40, 41, 120, 121, 366, 400, 1000, 1001, 36524, 36525, 99999, 100000,
        999999, 1000000, Integer.MIN_VALUE, Integer.MAX_VALUE,
    };

    public static void main(String[] args) throws IllegalAccessException {
        Method[] face = Arrays.stream(LotRules.class.getDeclaredMethods())
                .filter(method -> Modifier.isPublic(method.getModifiers()))
                .sorted(Comparator.comparing(Method::getName))
                .toArray(Method[]::new);
        for (int seed = 0; seed < 80; seed++) {
            oneRun(face, new Random(seed), 2 + seed % 40);
        }
        Check.end();
    }

    private static void oneRun(Method[] face, Random random, int small) throws IllegalAccessException {
        LotRules x = new LotRules();
        for (int call = 0; call < 512; call++) {
            Method method = face[random.nextInt(face.length)];
            Object[] arguments = argumentsFor(method, random, small);
            String text = method.getName() + Arrays.toString(arguments);
            String before = Check.stateOf(x);
            try {
                method.invoke(x, arguments);
            } catch (InvocationTargetException e) {
                Class<?> thrown = e.getCause().getClass();
                Check.holds(text + " threw " + thrown, Arrays.asList(method.getExceptionTypes()).contains(thrown));
                Check.holds(text + " was refused but changed something",
                        method.getName().equals("put") || before.equals(Check.stateOf(x)));
            }
        }
    }

    private static Object[] argumentsFor(Method method, Random random, int small) {
        Class<?>[] types = method.getParameterTypes();
        Object[] arguments = new Object[types.length];
        for (int i = 0; i < types.length; i++) {
            if (types[i] == boolean.class) {
                arguments[i] = random.nextBoolean();
            } else if (random.nextInt(20) == 0) {
                arguments[i] = EDGES[random.nextInt(EDGES.length)];
            } else {
                arguments[i] = random.nextInt(small);
            }
        }
        return arguments;
    }
}
