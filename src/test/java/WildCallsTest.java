import java.lang.reflect.InvocationTargetException;
import java.lang.reflect.Method;
import java.util.Arrays;
import java.util.Comparator;
import java.util.List;
import java.util.Random;

/**
 * Calls with any arguments, on objects that are used far longer than the document asks for: whatever
 * is thrown is one of the call's own exceptions, by a throw statement of the class.
 */
public final class WildCallsTest {
    private static final int OBJECTS = 20;
    private static final int CALLS = 20_000;
    private static final int[] EDGES = {Integer.MIN_VALUE, Integer.MAX_VALUE, -1, 0, 1, 2, 9, 10, 30, 40, 99, 100, 900,
        1000, 1399, 1400, 1600, 1800, 1999, 2000, 3599, 3600, 9999, 10_000};
    private static final Checks check = new Checks();

    public static void main(String[] args) throws Exception {
        Method[] face = Arrays.stream(Globewright.class.getMethods())
                .filter(method -> method.getDeclaringClass() == Globewright.class)
                .sorted(Comparator.comparing(Method::getName))
                .toArray(Method[]::new);
        for (int seed = 0; seed < OBJECTS; seed++) {
            Random random = new Random(seed);
            Globewright w = new Globewright();
            for (int call = 0; call < CALLS; call++) {
                Method method = face[random.nextInt(face.length)];
                callWildly(w, method, random);
            }
        }
        check.end();
    }

    private static void callWildly(Globewright w, Method method, Random random) throws Exception {
        Class<?>[] types = method.getParameterTypes();
        Object[] arguments = new Object[types.length];
        for (int i = 0; i < types.length; i++) {
            arguments[i] = types[i] == boolean.class ? (Object) random.nextBoolean()
                    : types[i] == char.class ? (Object) sign(random) : (Object) number(random);
        }
        try {
            check.holds(method.invoke(w, arguments) != null, "no answer");
        } catch (InvocationTargetException e) {
            Throwable thrown = e.getCause();
            boolean isDue = List.of(method.getExceptionTypes()).contains(thrown.getClass()) && Checks.isOwn(thrown);
            check.holds(isDue, method.getName() + Arrays.toString(arguments) + " threw " + thrown);
        }
    }

    private static char sign(Random random) {
        return random.nextInt(5) == 0 ? (char) random.nextInt(65536) : "ewnsud".charAt(random.nextInt(6));
    }

    private static int number(Random random) {
        switch (random.nextInt(6)) {
            case 0: return EDGES[random.nextInt(EDGES.length)];
            case 1: return random.nextInt();
            case 2: return 1400 + random.nextInt(600);
            case 3: return random.nextInt(3600);
            default: return random.nextInt(7);
        }
    }
}
