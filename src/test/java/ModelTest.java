import java.lang.reflect.InvocationTargetException;
import java.lang.reflect.Method;
import java.util.Arrays;
import java.util.Comparator;
import java.util.Random;

/** All promises: runs of 512 random calls, each answer held against Model's. */
public final class ModelTest {
    private static final Due due = new Due("ModelTest");
    private static final int RUNS = 400;
    private static final int CALLS = 512;
    private static final int[] WILD = {Integer.MIN_VALUE, Integer.MIN_VALUE + 10, -1001, -1000, -51,
        -20, -1, 0, 1, 9, 10, 17, 18, 19, 20, 27, 28, 30, 32, 40, 64, 99, 100, 101, 254, 255, 256,
        1000, 1001, Integer.MAX_VALUE - 7, Integer.MAX_VALUE};

    /** Names that a run calls more often, so that it comes far. */
    private static final String[] FREQUENT = {"deal", "deal", "deal", "deal", "trader", "put", "put",
        "put", "sheet", "forecast", "forecast", "forecast", "beliefs", "believe", "offer", "fault",
        "at", "held", "held", "best", "quote", "barred", "of"};

    private final Random random;
    private final Method[] methods;
    private int n = 2;
    private int b = 100;

    private ModelTest(long seed) {
        random = new Random(seed);
        methods = Arrays.stream(BetMaker.class.getDeclaredMethods())
            .filter(m -> java.lang.reflect.Modifier.isPublic(m.getModifiers()))
            .sorted(Comparator.comparing(Method::getName)).toArray(Method[]::new);
    }

    public static void main(String[] args) throws ReflectiveOperationException {
        int runs = args.length == 0 ? RUNS : Integer.parseInt(args[0]);
        for (int seed = 0; seed < runs; seed++) {
            new ModelTest(seed).run(seed);
        }
        due.close();
    }

    private void run(int seed) throws ReflectiveOperationException {
        BetMaker maker = new BetMaker();
        Model model = new Model();
        boolean comes = seed % 3 == 0;
        for (int k = 0; k < CALLS; k++) {
            Method method = k == 0 ? find("begin") : pick(k, comes);
            Object[] with = arguments(method);
            Method other = Model.class.getDeclaredMethod(method.getName(), method.getParameterTypes());
            String call = "run " + seed + " call " + k + ": " + method.getName() + Arrays.toString(with);
            long want = answer(other, model, with, call);
            due.is(call, answer(method, maker, with, call), want);
            n = model.told(0);
            b = model.told(1);
        }
    }

    private static long answer(Method method, Object on, Object[] with, String call)
            throws ReflectiveOperationException {
        try {
            return ((Number) method.invoke(on, with)).longValue();
        } catch (InvocationTargetException e) {
            throw new IllegalStateException(call, e.getCause());
        }
    }

    private Method find(String name) {
        return Arrays.stream(methods).filter(m -> m.getName().equals(name)).findFirst().orElseThrow();
    }

    private Method pick(int k, boolean comes) {
        Method method = random.nextInt(3) > 0 ? find(FREQUENT[random.nextInt(FREQUENT.length)])
            : methods[random.nextInt(methods.length)];
        boolean ends = method.getName().equals("begin") || method.getName().equals("comes");
        boolean early = !comes || k < 350 || random.nextInt(4) > 0;
        return ends && early && random.nextInt(40) > 0 ? find("deal") : method;
    }

    private int among(int from, int to) {
        return from + random.nextInt(to - from + 1);
    }

    private int shares() {
        int far = new int[] {3, 50, Math.max(1, b / 2), 1000}[random.nextInt(4)];
        return among(-Math.min(far, 1000), Math.min(far, 1000));
    }

    private Object[] arguments(Method method) {
        int set = among(1, (1 << n) - 2);
        int t = among(0, random.nextInt(8) == 0 ? 6 : 2);
        int c = among(0, n - 1);
        int k = among(0, 3);
        int lane = k == 3 ? among(0, 2) : k;
        lane = random.nextInt(6) == 0 ? among(0, 2) : lane;
        int i = random.nextInt(5) == 0 ? among(-1, 24) : among(0, 8);
        int weight = new int[] {among(0, 3), among(0, 10), among(0, 100), among(-3, 103)}[random.nextInt(4)];
        Object[] with = switch (method.getName()) {
            case "begin" -> new Object[] {among(2, random.nextBoolean() ? 4 : 8), among(1, random.nextBoolean() ? 30 : 1000)};
            case "trader" -> new Object[] {among(0, 2), purse()};
            case "price" -> new Object[] {set};
            case "quote", "barred", "deal", "worth" -> new Object[] {t, set, shares()};
            case "comes" -> new Object[] {c};
            case "about" -> new Object[] {c, among(0, 2)};
            case "maker" -> new Object[] {among(0, 4)};
            case "of" -> new Object[] {t, random.nextBoolean() ? among(0, 4) : among(1, 2) * 10 + c};
            case "believe" -> new Object[] {t, c, weight};
            case "beliefs" -> new Object[] {t, k, lane, i};
            case "best" -> new Object[] {t, set};
            case "offer" -> new Object[] {set, among(1, random.nextBoolean() ? 40 : 99), among(1, 3)};
            case "most" -> new Object[] {among(0, 5), among(0, 3)};
            case "sure", "trace", "fault" -> new Object[] {};
            case "bundle" -> new Object[] {among(0, 5)};
            case "forecast" -> new Object[] {k, lane, i, c};
            case "score" -> new Object[] {among(0, 12), among(0, 1)};
            case "honest" -> new Object[] {t, among(0, 12), among(0, 1)};
            case "held" -> new Object[] {c, among(0, 10), among(0, 2)};
            case "sheet" -> new Object[] {k, lane, random.nextInt(6) == 0 ? among(-2, 25) : among(10, 24)};
            case "lose" -> new Object[] {k};
            case "put" -> new Object[] {k, i, random.nextInt(30) == 0 ? random.nextInt() : weight};
            case "at" -> new Object[] {k, i, lane};
            case "tell", "greet" -> new Object[] {t};
            case "as" -> new Object[] {t, among(0, 2)};
            case "told" -> new Object[] {among(0, 5)};
            default -> throw new IllegalStateException(method.getName());
        };
        if (with.length > 0 && random.nextInt(12) == 0) {
            int where = random.nextInt(with.length);
            int wild = WILD[random.nextInt(WILD.length)];
            with[where] = with[where] instanceof Long ? (Object) Long.valueOf(wild) : (Object) wild;
        }
        return with;
    }

    private Object purse() {
        long unit = 4L * b * n;
        long[] purses = {0, random.nextInt(1000), unit * among(0, 60), 1_000_000_000_000L,
            1_000_000_000_001L, -1, (long) (random.nextDouble() * 1e9)};
        return purses[random.nextInt(purses.length)];
    }
}
