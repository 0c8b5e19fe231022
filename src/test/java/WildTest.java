import java.lang.reflect.InvocationTargetException;
import java.lang.reflect.Method;
import java.util.Arrays;
import java.util.Comparator;
import java.util.Random;

/**
 * LANGUAGE.md, rules 7 and 13: no call ever throws, for any arguments in any state, also behind the 512th call; the
 * same calls always give the same answers, whatever is done with other objects meanwhile.
 */
public final class WildTest {
    private static final int RUNS = 60, CALLS = 4000;
    private static final int[] ODD = {Integer.MIN_VALUE, Integer.MIN_VALUE + 1, -65536, -16, -10, -2, -1, 0, 1, 2, 3, 4,
        5, 6, 7, 8, 9, 12, 15, 16, 23, 24, 25, 50, 51, 63, 64, 65, 100, 101, 120, 216, 255, 256, 475, 512, 2000, 65535,
        65536, 1000000, 1000001, 0x7F7FFFFF, 0x7F800000, 0x7F800001, 0x7FC00000, Integer.MAX_VALUE};
    private static final Method[] FACE = face();
    private static final Check CHECK = new Check();

    public static void main(String[] args) throws IllegalAccessException {
        for (int seed = 0; seed < RUNS; seed++) {
            run(seed);
        }
        CHECK.end();
    }

    /** In an order of its own, as the machine tells them in any. */
    private static Method[] face() {
        Method[] face = Arrays.stream(CueBoard.class.getMethods())
                .filter(method -> method.getDeclaringClass() == CueBoard.class).toArray(Method[]::new);
        Arrays.sort(face, Comparator.comparing(Method::getName));
        return face;
    }

    private static void run(int seed) throws IllegalAccessException {
        CueBoard x = new CueBoard();
        CueBoard same = new CueBoard();
        CueBoard apart = new CueBoard();
        Random calls = new Random(seed);
        Random others = new Random(~seed);
        // Some runs are wild all along, some act mostly.
        int oddIn = 1 + seed % 12;
        for (int i = 0; i < CALLS; i++) {
            Method method = FACE[calls.nextInt(FACE.length)];
            Object[] numbers = numbers(method, calls, oddIn);
            Object got = answer(x, method, numbers);
            Method other = FACE[others.nextInt(FACE.length)];
            answer(apart, other, numbers(other, others, oddIn));
            Object again = answer(same, method, numbers);
            boolean alike = got != null && got.equals(again);
            String call = alike ? "" : "run " + seed + ", call " + i + ": " + told(method, numbers) + " twice";
            CHECK.due(call, alike ? 1 : 0, 1);
        }
    }

    private static Object[] numbers(Method method, Random random, int oddIn) {
        Class<?>[] types = method.getParameterTypes();
        Object[] numbers = new Object[types.length];
        for (int i = 0; i < types.length; i++) {
            if (types[i] == boolean.class) {
                numbers[i] = random.nextBoolean();
            } else if (random.nextInt(oddIn) != 0) {
                numbers[i] = random.nextInt(i == 0 ? 6 : 4);
            } else {
                numbers[i] = random.nextInt(8) == 0 ? random.nextInt() : ODD[random.nextInt(ODD.length)];
            }
        }
        return numbers;
    }

    /** What it answers; null, and said to be wrong, if it throws. */
    private static Object answer(CueBoard x, Method method, Object[] numbers) throws IllegalAccessException {
        try {
            return method.invoke(x, numbers);
        } catch (InvocationTargetException thrown) {
            CHECK.due(told(method, numbers) + " threw " + thrown.getCause(), 0, 1);
            return null;
        }
    }

    private static String told(Method method, Object[] numbers) {
        return method.getName() + Arrays.toString(numbers);
    }
}
