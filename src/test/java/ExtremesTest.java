import java.lang.reflect.InvocationTargetException;
import java.lang.reflect.Method;
import java.lang.reflect.Modifier;
import java.util.ArrayList;
import java.util.Comparator;
import java.util.List;
import java.util.Random;

/** Every call with numbers of every size in every order: none may throw, and the same calls answer the same. */
public final class ExtremesTest {
    private static final Check CHECK = new Check("ExtremesTest");
    private static final int[] EDGES = {
        Integer.MIN_VALUE, Integer.MIN_VALUE + 1, -101, -100, -65, -31, -10, -5, -4, -3, -2, -1, 0, 1, 2, 3, 4, 5, 6,
        7, 8, 9, 10, 11, 12, 13, 15, 16, 17, 20, 21, 30, 31, 64, 65, 99, 100, 101, 300, 1 << 30, Integer.MAX_VALUE,
    };

    public static void main(String[] args) throws IllegalAccessException {
        List<Method> calls = new ArrayList<>();
        for (Method method : BentGrounds.class.getDeclaredMethods()) {
            if (Modifier.isPublic(method.getModifiers())) {
                calls.add(method);
            }
        }
        calls.sort(Comparator.comparing(Method::getName));
        for (int run = 0; run < 400; run++) {
            go(calls, run);
        }
        CHECK.end();
    }

    private static void go(List<Method> calls, int run) throws IllegalAccessException {
        Random chance = new Random(run * 0x9E3779B97F4A7C15L);
        BentGrounds x = new BentGrounds();
        BentGrounds y = new BentGrounds();
        int nearness = chance.nextInt(3);
        for (int k = 0; k < 500; k++) {
            Method call = calls.get(chance.nextInt(calls.size()));
            Object[] numbers = new Object[call.getParameterCount()];
            for (int i = 0; i < numbers.length; i++) {
                boolean near = chance.nextInt(3) < nearness;
                numbers[i] = near ? chance.nextInt(5) : EDGES[chance.nextInt(EDGES.length)];
            }
            CHECK.due("run " + run + ": " + call.getName(), ask(call, x, numbers), ask(call, y, numbers));
        }
    }

    private static long ask(Method call, BentGrounds x, Object[] numbers) throws IllegalAccessException {
        try {
            return ((Number) call.invoke(x, numbers)).longValue();
        } catch (InvocationTargetException thrown) {
            CHECK.due(call.getName() + java.util.Arrays.toString(numbers) + " threw " + thrown.getCause(), 1, 0);
            return 0;
        }
    }
}
