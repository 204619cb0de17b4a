import java.lang.reflect.InvocationTargetException;
import java.lang.reflect.Method;
import java.util.Arrays;
import java.util.Comparator;
import java.util.Random;

/** Far more than 512 calls on an object: their answers are free, but none may throw. */
public final class ManyCallsTest {
    private static final int RUNS = 45, BEGINNINGS = 9, CALLS = 20000;
    private static final int[] FAR = {Integer.MIN_VALUE, Integer.MIN_VALUE + 1, -65536, -1, 65536, 1 << 30,
        Integer.MAX_VALUE - 1, Integer.MAX_VALUE};
    // How great a number may be that a call takes: each is of use for some of them.
    private static final int[] MOST = {1, 3, 8, 12, 100, 200, 1000, 10000, 100000, 10000000};

    public static void main(String[] args) throws IllegalAccessException {
        Method[] calls = Arrays.stream(BreadLaw.class.getMethods())
            .filter(m -> m.getDeclaringClass() == BreadLaw.class)
            .sorted(Comparator.comparing(Method::getName)).toArray(Method[]::new);
        for (int seed = 0; seed < RUNS; seed++) {
            run(calls, seed);
        }
        Due.end();
    }

    private static void run(Method[] calls, int seed) throws IllegalAccessException {
        Random random = new Random(seed);
        BreadLaw x = begun(seed % BEGINNINGS);
        for (int i = 0; i < CALLS; i++) {
            // Time goes on only at last, or nearly all calls would be of the last week.
            Method call = calls[random.nextInt(calls.length)];
            if (i >= CALLS / 2 || !call.getName().equals("go")) {
                doesNotThrow(x, call, numbers(call.getParameterCount(), random), seed);
            }
        }
    }

    /** Random numbers alone would seldom fill all there is, so some runs begin with what is full. */
    private static BreadLaw begun(int how) {
        switch (how) {
            case 0: return Town.busy();
            case 1: return Town.busyWithFullBook();
            case 2: return Town.withEightBakers();
            case 3: return Town.withSixTexts();
            case 4: return Town.withTenHarvests();
            case 5: return Town.withFullStore();
            case 6: return Town.barred();
            case 7: return Town.busyTill(Town.LAST_HOUR);
            default: return new BreadLaw();
        }
    }

    private static void doesNotThrow(BreadLaw x, Method call, Object[] given, int seed) throws IllegalAccessException {
        String thrown = "nothing";
        try {
            call.invoke(x, given);
        } catch (InvocationTargetException e) {
            thrown = String.valueOf(e.getCause());
        }
        Due.holds("seed " + seed + " " + call.getName() + Arrays.toString(given) + " threw " + thrown,
            thrown.equals("nothing"));
    }

    private static Object[] numbers(int count, Random random) {
        Object[] given = new Object[count];
        for (int i = 0; i < count; i++) {
            boolean isFar = random.nextInt(20) == 0;
            given[i] = isFar ? FAR[random.nextInt(FAR.length)] : random.nextInt(MOST[random.nextInt(MOST.length)] + 1);
        }
        return given;
    }
}
