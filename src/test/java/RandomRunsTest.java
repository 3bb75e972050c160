import java.lang.reflect.InvocationTargetException;
import java.lang.reflect.Method;
import java.util.ArrayList;
import java.util.Arrays;
import java.util.List;
import java.util.Map;
import java.util.Random;
import java.util.TreeMap;
import java.util.TreeSet;

/**
 * Runs of 512 calls, most of them with fitting numbers and some with wrong ones, on Globewright
 * and on PlainWorkshop at once: each call must have the same answer or the same exception. At the
 * end every call must have answered at least once, and thrown each of its exceptions.
 */
public final class RandomRunsTest {
    private static final int RUNS = 1500;
    private static final int CALLS = 512;
    /** No more than six spheres bear a globe each, so there are never eight globes. */
    private static final String NEVER = "globe IllegalStateException";
    private static final Method[] FACE = face();
    private static final Map<String, String> KINDS = new TreeMap<>();
    private static final TreeSet<String> SEEN = new TreeSet<>();

    static {
        String[] rows = {"sine latitude", "arc thousandth", "sphere circumference", "load sphere direction weight",
            "lean sphere axis", "balance sphere", "leanBits sphere", "scaleBits sphere any", "pass years",
            "fact longitude known false", "plate width", "cut plate fact place", "hammer plate fact",
            "shows plate fact", "states plate", "sharpen plate", "print plate", "isPrinted sheet fact",
            "growth wet", "globe sphere", "paste globe sheet", "gap globe plate", "placeOf globe fact",
            "offOf globe fact", "lose globe plate fact", "loseGore globe plate", "years globe",
            "yearOf globe yes", "isPirate globe globe", "isle", "source isle longitude error", "agreeing isle",
            "best isle", "news digit year digit", "claim customer digit owner", "colour customer digit year",
            "star longitude latitude year", "starAt star year yes", "day latitude declination",
            "distance latitude longitude latitude longitude", "subscribe price", "giveUp subscriber",
            "deliver globe", "owes subscriber", "money", "balancedShare", "meanGap", "checksum", "isTrue"};
        for (String row : rows) {
            KINDS.put(row.split(" ")[0], row);
        }
    }

    private final Random random;
    private final Globewright globewright = new Globewright();
    private final PlainWorkshop plain = new PlainWorkshop();
    private final List<Method> urn = new ArrayList<>();
    private final int wrongInThousand;

    private RandomRunsTest(int seed) {
        random = new Random(seed);
        wrongInThousand = new int[] {0, 10, 60}[random.nextInt(3)];
        // In some runs the plates are changed so often that they come to the end of their changes.
        int changing = random.nextInt(4) == 0 ? 200 : 0;
        for (Method method : FACE) {
            boolean isChange = method.getName().equals("cut") || method.getName().equals("hammer");
            int often = new int[] {1, 2, 5, 20}[random.nextInt(4)] + (isChange ? changing : 0);
            for (int i = 0; i < often; i++) {
                urn.add(method);
            }
        }
    }

    public static void main(String[] args) throws Exception {
        for (int seed = 0; seed < RUNS; seed++) {
            new RandomRunsTest(seed).run(seed);
        }
        checkOutcomes();
        System.out.println(RUNS + " runs of " + CALLS + " calls, all answers alike");
    }

    private static Method[] face() {
        Method[] methods = Arrays.stream(Globewright.class.getDeclaredMethods())
                .filter(method -> java.lang.reflect.Modifier.isPublic(method.getModifiers()))
                .toArray(Method[]::new);
        Arrays.sort(methods, (a, b) -> a.getName().compareTo(b.getName()));
        return methods;
    }

    private void run(int seed) throws Exception {
        StringBuilder log = new StringBuilder();
        // Some runs hold their globes back, since there can be no new plate behind the first one.
        int firstGlobe = random.nextInt(120);
        for (int call = 0; call < CALLS; call++) {
            Method method = urn.get(random.nextInt(urn.size()));
            if (call < firstGlobe && method.getName().equals("globe")) {
                continue;
            }
            Object[] arguments = arguments(method);
            String due = answer(twin(method), plain, arguments);
            String has = answer(method, globewright, arguments);
            log.append(method.getName()).append(Arrays.toString(arguments)).append(" = ").append(due).append('\n');
            SEEN.add(method.getName() + " " + (due.startsWith("throws ") ? due.substring(7) : "answers"));
            if (!due.equals(has)) {
                System.out.println(log + "run " + seed + ", call " + call + " answered " + has);
                System.exit(1);
            }
        }
    }

    private static Method twin(Method method) throws Exception {
        Method twin = PlainWorkshop.class.getDeclaredMethod(method.getName(), method.getParameterTypes());
        twin.setAccessible(true);
        return twin;
    }

    private static String answer(Method method, Object on, Object[] arguments) throws Exception {
        try {
            Object result = method.invoke(on, arguments);
            return result.getClass().getSimpleName() + " " + result;
        } catch (InvocationTargetException e) {
            boolean isAlien = on instanceof Globewright && !Checks.isOwn(e.getCause());
            return "throws " + e.getCause().getClass().getSimpleName() + (isAlien ? " by itself" : "");
        }
    }

    private Object[] arguments(Method method) {
        String[] kinds = KINDS.get(method.getName()).split(" ");
        Object[] arguments = new Object[kinds.length - 1];
        for (int i = 0; i < arguments.length; i++) {
            arguments[i] = argument(kinds[i + 1], arguments);
        }
        return arguments;
    }

    private Object argument(String kind, Object[] ahead) {
        boolean isWrong = random.nextInt(1000) < wrongInThousand;
        switch (kind) {
            case "direction": return isWrong ? (char) random.nextInt(65536) : "ewnsud".charAt(random.nextInt(6));
            case "axis": return isWrong ? (char) random.nextInt(65536) : "enu".charAt(random.nextInt(3));
            case "yes": return random.nextBoolean();
            case "any": return random.nextInt() >> random.nextInt(32);
            case "known": return isWrong ? wrong(1400, 1999) : 1550 + random.nextInt(120);
            case "false": return falseFrom((Integer) ahead[1], isWrong);
            case "place": return number(0, widthOf((Integer) ahead[0]) - 1, isWrong);
            default: break;
        }
        int[] range = range(kind);
        return number(range[0], range[1], isWrong);
    }

    private int falseFrom(int known, boolean isWrong) {
        int way = random.nextInt(3);
        return isWrong ? wrong(known, 1999) : way == 0 ? -1 : way == 1 ? known
                : Math.min(1999, known + random.nextInt(100));
    }

    private int widthOf(int plate) {
        return plate >= 0 && plate < plain.coppers.size() ? plain.coppers.get(plate).width : 10;
    }

    private int number(int least, int most, boolean isWrong) {
        if (isWrong || most < least) {
            return wrong(least, most);
        }
        int way = random.nextInt(12);
        return way == 0 ? least : way == 1 ? most : least + random.nextInt(most - least + 1);
    }

    private int wrong(int least, int most) {
        int[] wrong = {least - 1, most + 1, Integer.MIN_VALUE, Integer.MAX_VALUE, random.nextInt(), -random.nextInt(9)};
        return wrong[random.nextInt(wrong.length)];
    }

    private int[] range(String kind) {
        switch (kind) {
            case "sphere": return upTo(plain.balls);
            case "fact": return upTo(plain.facts);
            case "plate": return upTo(plain.coppers);
            case "sheet": return upTo(plain.papers);
            case "globe": return upTo(plain.wares);
            case "isle": return upTo(plain.isles);
            case "star": return upTo(plain.stars);
            case "subscriber": return upTo(plain.buyers);
            case "latitude": return new int[] {-900, 900};
            case "longitude": return new int[] {0, 3599};
            case "declination": return new int[] {-300, 300};
            case "thousandth": return new int[] {-1000, 1000};
            case "circumference": return new int[] {100, 9999};
            case "weight": return new int[] {1, random.nextBoolean() ? 3 : 999};
            case "years": return new int[] {1, random.nextInt(8) > 0 ? 4 : 99};
            case "year": return new int[] {1400, 1999};
            case "width": return new int[] {10, 999};
            case "wet": return new int[] {0, 200};
            case "error": return new int[] {0, random.nextBoolean() ? 900 : 90};
            case "digit": return new int[] {0, 9};
            case "customer": return new int[] {0, 3};
            case "owner": return new int[] {-1, 9};
            case "price": return new int[] {2, random.nextBoolean() ? 9999 : 5};
            default: throw new IllegalStateException(kind);
        }
    }

    private static int[] upTo(List<?> list) {
        return new int[] {0, list.size() - 1};
    }

    private static void checkOutcomes() {
        int missing = 0;
        for (Method method : FACE) {
            List<String> due = new ArrayList<>(List.of(method.getName() + " answers"));
            for (Class<?> thrown : method.getExceptionTypes()) {
                due.add(method.getName() + " " + thrown.getSimpleName());
            }
            for (String outcome : due) {
                if (!SEEN.contains(outcome) && !outcome.equals(NEVER)) {
                    System.out.println("never came: " + outcome);
                    missing++;
                }
            }
        }
        if (missing > 0 || SEEN.contains(NEVER)) {
            System.exit(1);
        }
    }
}
