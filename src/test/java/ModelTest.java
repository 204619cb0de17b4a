import java.lang.reflect.Method;
import java.util.Arrays;
import java.util.Comparator;
import java.util.Random;

/** Random runs of 512 calls on BreadLaw and PlainModel: each answer must be the same. */
public final class ModelTest {
    private static final int RUNS = 1500, CALLS = 512;
    // Each bound of the document with its neighbours, and what is far outside.
    private static final int[] ODD = {Integer.MIN_VALUE, -7, -2, -1, 0, 1, 2, 3, 4, 5, 6, 7, 8, 9, 10, 11, 99, 100,
        101, 167, 168, 169, 198, 199, 200, 201, 299, 300, 301, 499, 500, 501, 999, 1000, 1001, 1999, 2000, 2001, 4999,
        5000, 5001, 9999, 10000, 10001, 99999, 100000, 100001, 9999999, 10000000, 10000001, 100000001,
        Integer.MAX_VALUE};

    public static void main(String[] args) throws ReflectiveOperationException {
        Method[] calls = BreadLaw.class.getDeclaredMethods();
        calls = Arrays.stream(calls).filter(m -> (m.getModifiers() & 1) == 1)
            .sorted(Comparator.comparing(Method::getName)).toArray(Method[]::new);
        Due.is("calls of the face", calls.length, 26);
        for (int seed = 0; seed < RUNS; seed++) {
            compare(calls, seed);
        }
        Due.end();
    }

    private static void compare(Method[] calls, int seed) throws ReflectiveOperationException {
        Random random = new Random(seed);
        int[] weights = weights(calls, random);
        BreadLaw x = new BreadLaw();
        PlainModel model = new PlainModel();
        for (int i = 0; i < CALLS; i++) {
            Method call = calls[pick(weights, random)];
            Object[] given = arguments(call, model, random);
            int want = (int) PlainModel.class.getMethod(call.getName(), call.getParameterTypes()).invoke(model, given);
            int got = (int) call.invoke(x, given);
            Due.is("seed " + seed + " call " + i + " " + call.getName() + Arrays.toString(given), got, want);
            if (got != want) {
                return;
            }
        }
    }

    /** Each run likes other calls, so that books fill with all kinds of records and time goes fast or slowly. */
    private static int[] weights(Method[] calls, Random random) {
        int[] weights = new int[calls.length];
        for (int i = 0; i < calls.length; i++) {
            boolean makes = "buy grind bake search".contains(calls[i].getName());
            boolean isRare = "baker text dish rules".contains(calls[i].getName());
            weights[i] = (makes ? 40 : isRare ? 4 : 10) * random.nextInt(5) + 1;
        }
        return weights;
    }

    private static int pick(int[] weights, Random random) {
        int at = random.nextInt(Arrays.stream(weights).sum());
        int i = 0;
        while (at >= weights[i]) {
            at -= weights[i];
            i++;
        }
        return i;
    }

    private static Object[] arguments(Method call, PlainModel model, Random random) {
        int[] wanted = sensible(call.getName(), model, random);
        Object[] given = new Object[wanted.length];
        for (int i = 0; i < wanted.length; i++) {
            boolean isOdd = random.nextInt(15) == 0;
            given[i] = isOdd ? ODD[random.nextInt(ODD.length)] : wanted[i];
        }
        return given;
    }

    private static int[] sensible(String name, PlainModel model, Random r) {
        int week = model.told(0);
        int baker = r.nextInt(model.told(2) + 1) - r.nextInt(2);
        int record = r.nextInt(3) == 0 ? model.told(4) - r.nextInt(6) : r.nextInt(model.told(4) + 1);
        switch (name) {
            case "go": return new int[] {r.nextInt(8) == 0 ? r.nextInt(5002) : r.nextInt(r.nextBoolean() ? 12 : 300)};
            case "buy": return new int[] {baker, r.nextBoolean() ? r.nextInt(300) : r.nextInt(100002), r.nextInt(1002)};
            case "grind": return new int[] {record};
            case "dish": return new int[] {r.nextInt(102)};
            case "price": return new int[] {week + 1 - r.nextInt(week + 4)};
            case "text": return new int[] {r.nextBoolean() ? week : r.nextInt(201), 9 + r.nextInt(292),
                9 + r.nextInt(292), 10 + r.nextInt(292), r.nextInt(7) - r.nextInt(2)};
            case "step": return new int[] {r.nextInt(model.told(3) + 1), r.nextInt(1002), r.nextInt(1002)};
            case "inForce": return new int[] {r.nextInt(201)};
            case "due": return new int[] {r.nextInt(4), week + 1 - r.nextInt(week + 3)};
            case "bake": return new int[] {baker, r.nextInt(4), r.nextInt(r.nextBoolean() ? 4 : 502),
                r.nextInt(r.nextBoolean() ? 200 : 2002)};
            case "rules": return new int[] {r.nextInt(7), r.nextInt(1002)};
            case "record": return new int[] {record, r.nextInt(5)};
            case "lot": return new int[] {record, r.nextInt(5)};
            case "batch": return new int[] {record, r.nextBoolean() ? r.nextInt(5) : 9 + r.nextInt(10)};
            case "found": return new int[] {record, r.nextInt(7)};
            case "about": return new int[] {baker, r.nextInt(9)};
            case "store": return new int[] {r.nextInt(r.nextBoolean() ? 100000 : 10000002)};
            case "mouths": return new int[] {r.nextInt(r.nextBoolean() ? 100 : 10002), r.nextInt(1002)};
            case "ration": return new int[] {r.nextInt(102)};
            case "harvest": return new int[] {week + r.nextInt(30) - 2, r.nextInt(r.nextBoolean() ? 100000 : 10000002)};
            case "foretell": return new int[] {r.nextInt(102)};
            case "order": return new int[] {r.nextBoolean() ? week + r.nextInt(20) - 1 : r.nextInt(201)};
            case "told": return new int[] {r.nextInt(11)};
            default: return new int[0];
        }
    }
}
