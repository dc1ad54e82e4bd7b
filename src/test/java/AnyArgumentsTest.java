import java.lang.reflect.InvocationTargetException;
import java.lang.reflect.Method;
import java.lang.reflect.Modifier;
import java.util.List;
import java.util.Random;
import java.util.function.Supplier;

/** No call may throw, for any arguments in any state: each method meets the edges of its numbers. */
public final class AnyArgumentsTest {
    private static final int[] EDGES = {Integer.MIN_VALUE, -1001, -1000, -100, -1, 0, 1, 2, 3, 4, 8, 9, 40, 41, 60, 100, 1000,
        Integer.MAX_VALUE};
    private static final int[] FEW = {Integer.MIN_VALUE, -1, 0, 1, 3, 40, Integer.MAX_VALUE};
    private static final int CALLS = 512;

    private static int made = 0;

    private static FiniteMatrices withAll(int d, String text) {
        FiniteMatrices x = Check.of(d, text);
        for (int sheet = 0; sheet < 3; sheet++) {
            x.sheet(sheet, sheet, 40);
            x.put(sheet, 0, Long.MIN_VALUE);
            x.put(sheet, 39, Long.MAX_VALUE);
        }
        x.keep();
        x.orbit(1, 2, 3);
        return x;
    }

    private static final List<Supplier<FiniteMatrices>> STATES = List.of(
            FiniteMatrices::new,
            () -> withAll(1, "-1;"),
            () -> withAll(2, "99 98/98 97;1 99/0 -1;"),
            () -> withAll(3, "0 1 0/1 0 0/0 0 1;0 1 0/0 0 1/1 0 0;-1 0 0/0 1 0/0 0 1;1 99 0/0 1 99/0 0 1;"));

    private static Object argument(Class<?> type, int edge) {
        if (type == long.class) {
            return edge == Integer.MIN_VALUE ? Long.MIN_VALUE : edge == Integer.MAX_VALUE ? Long.MAX_VALUE : (long) edge;
        }
        return edge;
    }

    private static void call(FiniteMatrices x, Method method, Object[] arguments) {
        try {
            made++;
            method.invoke(x, arguments);
        } catch (InvocationTargetException e) {
            Check.holds(method.getName() + List.of(arguments) + " does not throw " + e.getCause(), false);
        } catch (IllegalAccessException e) {
            throw new IllegalStateException(e);
        }
    }

    /** All arguments that can be made of the edges, by a state that is made anew at times. */
    private static void allArguments(Method method, Supplier<FiniteMatrices> state) {
        Class<?>[] types = method.getParameterTypes();
        int[] edges = types.length > 3 ? FEW : EDGES;
        int many = 1;
        for (int k = 0; k < types.length; k++) {
            many *= edges.length;
        }
        FiniteMatrices x = state.get();
        for (int n = 0; n < many; n++) {
            Object[] arguments = new Object[types.length];
            for (int k = 0, rest = n; k < types.length; k++, rest /= edges.length) {
                arguments[k] = argument(types[k], edges[rest % edges.length]);
            }
            if (n % 32 == 0) {
                x = state.get();
            }
            call(x, method, arguments);
        }
    }

    /** Also far beyond the 512th call, where answers are free but nothing may be thrown. */
    private static void longRun(long seed, List<Method> methods) {
        Random random = new Random(seed);
        FiniteMatrices x = new FiniteMatrices();
        for (int k = 0; k < 4 * CALLS; k++) {
            Method method = methods.get(random.nextInt(methods.size()));
            Class<?>[] types = method.getParameterTypes();
            Object[] arguments = new Object[types.length];
            for (int n = 0; n < types.length; n++) {
                int edge = random.nextInt(4) == 0 ? EDGES[random.nextInt(EDGES.length)] : random.nextInt(4);
                arguments[n] = argument(types[n], edge);
            }
            call(x, method, arguments);
        }
    }

    public static void main(String[] args) {
        List<Method> methods = List.of(FiniteMatrices.class.getDeclaredMethods()).stream()
                .filter(method -> Modifier.isPublic(method.getModifiers()))
                .sorted((a, b) -> a.getName().compareTo(b.getName())).toList();
        Check.due("methods", methods.size(), 36);
        for (Method method : methods) {
            for (Supplier<FiniteMatrices> state : STATES) {
                allArguments(method, state);
            }
        }
        for (long seed = 0; seed < 200; seed++) {
            longRun(seed, methods);
        }
        System.out.println(made + " calls");
        Check.finish();
    }
}
