import java.lang.reflect.InvocationTargetException;
import java.lang.reflect.Method;
import java.lang.reflect.Modifier;
import java.util.Arrays;
import java.util.Comparator;
import java.util.Random;

/** Every call by lot with small, edge and extreme arguments: none throws. */
public final class NeverThrowsTest {
    private static final int RUNS = 120, CALLS = 1500;
    private static final long[] EDGES = {-15, -3, -2, -1, 0, 1, 2, 3, 4, 5, 6, 7, 14, 15, 59, 60, 61, 99, 100, 127, 128, 999,
        Integer.MAX_VALUE, Integer.MAX_VALUE - 1L, Integer.MIN_VALUE, Integer.MIN_VALUE + 1L, Long.MAX_VALUE, Long.MIN_VALUE};

    private NeverThrowsTest() {
    }

    public static void main(String[] args) throws IllegalAccessException {
        Check check = new Check("NeverThrowsTest");
        Random lot = new Random(1);
        Method[] calls = Arrays.stream(OneFriend.class.getDeclaredMethods()).filter(m -> Modifier.isPublic(m.getModifiers()))
            .sorted(Comparator.comparing(Method::getName)).toArray(Method[]::new);
        for (int run = 0; run < RUNS; run++) {
            OneFriend x = new OneFriend();
            for (int i = 0; i < CALLS; i++) {
                Method call = calls[lot.nextInt(calls.length)];
                Object[] values = Arrays.stream(call.getParameterTypes()).map(type -> any(type, lot)).toArray();
                try {
                    call.invoke(x, values);
                    check.holds(call.getName(), true);
                } catch (InvocationTargetException e) {
                    check.holds(call.getName() + Arrays.toString(values) + " threw " + e.getCause(), false);
                }
            }
        }
        check.close();
    }

    private static Object any(Class<?> type, Random lot) {
        if (type == boolean.class) {
            return lot.nextBoolean();
        }
        long value = lot.nextInt(3) > 0 ? lot.nextInt(7) : EDGES[lot.nextInt(EDGES.length)];
        if (type == long.class) {
            return value;
        }
        return (int) value;
    }
}
