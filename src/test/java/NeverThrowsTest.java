import java.lang.reflect.InvocationTargetException;
import java.lang.reflect.Method;
import java.lang.reflect.Modifier;
import java.util.Arrays;
import java.util.Comparator;
import java.util.List;
import java.util.Random;
import java.util.function.Supplier;

/** No call throws, whatever its arguments are and in whatever state it is made; also beyond the 512th call. */
public final class NeverThrowsTest {
    private static final int LONG_RUN = 60000;
    private static final int[] MANY = {
        Integer.MIN_VALUE, Integer.MIN_VALUE + 1, -65536, -100, -32, -16, -8, -4, -3, -2, -1, 0, 1, 2, 3, 4, 5, 6, 7, 8, 9, 10,
        12, 13, 15, 16, 17, 20, 21, 31, 32, 33, 63, 64, 97, 99, 100, 101, 110, 127, 128, 255, 256, 9998, 9999, 10000,
        65535, 65536, 1 << 30, Integer.MAX_VALUE - 1, Integer.MAX_VALUE};
    private static final int[] SOME = {
        Integer.MIN_VALUE, -2, -1, 0, 1, 3, 7, 8, 12, 16, 32, 63, 100, 65535, Integer.MAX_VALUE};
    private static final int[] FEW = {Integer.MIN_VALUE, -1, 0, 1, 7, 8, 99, 100, 101, Integer.MAX_VALUE};
    private static final List<Supplier<PathInterdiction>> BENCHES =
        List.of(Benches::fresh, Benches::some, Benches::full);

    private static final Due due = new Due("NeverThrowsTest");

    private NeverThrowsTest() {
    }

    public static void main(String[] args) throws IllegalAccessException {
        Method[] calls = Arrays.stream(PathInterdiction.class.getDeclaredMethods())
            .filter(method -> Modifier.isPublic(method.getModifiers()))
            .sorted(Comparator.comparing(Method::getName)).toArray(Method[]::new);
        due.is("the calls", calls.length, 31);
        for (Method call : calls) {
            for (Supplier<PathInterdiction> bench : BENCHES) {
                allArguments(call, bench);
            }
        }
        longRun(calls, 1);
        longRun(calls, 2);
        due.end();
    }

    private static int[] values(int parameters) {
        return parameters <= 3 ? MANY : parameters == 4 ? SOME : FEW;
    }

    /** Each argument takes each value, beside all values of the others. */
    private static void allArguments(Method call, Supplier<PathInterdiction> bench) throws IllegalAccessException {
        int parameters = call.getParameterCount();
        int[] values = values(parameters);
        long all = 1;
        for (int i = 0; i < parameters; i++) {
            all *= values.length;
        }
        PathInterdiction x = bench.get();
        boolean clean = true;
        for (long k = 0; k < all && clean; k++) {
            Object[] arguments = new Object[parameters];
            long rest = k;
            for (int i = 0; i < parameters; i++) {
                arguments[i] = fit(call, i, values[(int) (rest % values.length)]);
                rest /= values.length;
            }
            if (k % 400 == 399) {
                x = bench.get();
            }
            clean = answers(x, call, arguments);
        }
        due.holds(call.getName() + " answers whatever its arguments are", clean);
    }

    private static Object fit(Method call, int parameter, int value) {
        return call.getParameterTypes()[parameter] == boolean.class ? (Object) (value % 2 == 0) : (Object) value;
    }

    private static boolean answers(PathInterdiction x, Method call, Object[] arguments) throws IllegalAccessException {
        try {
            call.invoke(x, arguments);
            return true;
        } catch (InvocationTargetException thrown) {
            System.out.println(call.getName() + Arrays.toString(arguments) + " threw " + thrown.getCause());
            return false;
        }
    }

    /** What later calls answer is free, but they must answer. */
    private static void longRun(Method[] calls, int seed) throws IllegalAccessException {
        Random random = new Random(seed);
        PathInterdiction x = new PathInterdiction();
        boolean clean = true;
        for (int i = 0; i < LONG_RUN && clean; i++) {
            // Every third call adds an edge, so that the graph is often full.
            Method call = i % 3 == 0 ? calls[0] : calls[random.nextInt(calls.length)];
            Object[] arguments = new Object[call.getParameterCount()];
            for (int k = 0; k < arguments.length; k++) {
                boolean odd = random.nextInt(12) == 0;
                arguments[k] = fit(call, k, odd ? MANY[random.nextInt(MANY.length)] : random.nextInt(6));
            }
            clean = answers(x, call, arguments);
        }
        due.holds("a run of " + LONG_RUN + " calls", clean);
    }
}
