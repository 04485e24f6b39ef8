import java.lang.reflect.InvocationTargetException;
import java.lang.reflect.Method;
import java.lang.reflect.Modifier;
import java.util.Arrays;

/**
 * Every call with every choice of numbers at, beside and far from the edges, in several states: none may
 * throw, each must answer as PlainModel does.
 */
public final class AnyNumbersTest {
    private static final Due due = new Due("AnyNumbersTest");
    private static final int LEAST = Integer.MIN_VALUE;
    private static final int MOST = Integer.MAX_VALUE;
    private static final int[] MANY = {
        LEAST, LEAST + 1, -5000, -2, -1, 0, 1, 2, 3, 4, 5, 7, 8, 9, 19, 20, 31, 32, 33, 199, 200, 201, 255, 256,
        976, 977, 1023, 1024, 1025, 1183, 1184, 2100, 4999, 5000, 5001, 19999, 20000, 20001, 40000, 1000000, 1000001,
        MOST - 1, MOST
    };
    private static final int[] SOME = {
        LEAST, -1, 0, 1, 2, 3, 4, 7, 8, 9, 32, 255, 256, 2100, 5000, 5001, 20000, 1000000, 1000001, MOST
    };
    private static final int[] FEW = {LEAST, -1, 0, 3, 4, 7, 8, 200, 201, 5000, 5001, MOST};
    private static final long[] LONGS = {
        Long.MIN_VALUE, -1, 0, 63, 64, 1L << 38, (1L << 62) - 1, 1L << 62, (1L << 62) + 1, Long.MAX_VALUE
    };
    private static final int STATES = 3;
    /** So many calls on one object, until one is made anew: calls before may have emptied it. */
    private static final int CALLS = 150;

    private static TreeHashes x;
    private static PlainModel m;
    private static int calls;

    public static void main(String[] args) throws ReflectiveOperationException {
        int tried = 0;
        for (Method method : TreeHashes.class.getDeclaredMethods()) {
            if (Modifier.isPublic(method.getModifiers())) {
                tried++;
                for (int state = 0; state < STATES; state++) {
                    calls = CALLS;
                    withAll(method, new Object[method.getParameterCount()], 0, state);
                }
            }
        }
        due.is("calls tried", tried, 20);
        due.end();
    }

    private static void withAll(Method method, Object[] chosen, int next, int state)
            throws ReflectiveOperationException {
        if (next == chosen.length) {
            call(method, chosen, state);
        } else if (method.getParameterTypes()[next] == long.class) {
            for (long number : LONGS) {
                chosen[next] = number;
                withAll(method, chosen, next + 1, state);
            }
        } else {
            int[] numbers = chosen.length <= 2 ? MANY : chosen.length == 3 ? SOME : FEW;
            for (int number : numbers) {
                chosen[next] = number;
                withAll(method, chosen, next + 1, state);
            }
        }
    }

    private static void call(Method method, Object[] numbers, int state) throws ReflectiveOperationException {
        if (calls == CALLS) {
            makeAnew(state);
            calls = 0;
        }
        calls++;
        String name = method.getName() + Arrays.toString(numbers) + " in state " + state;
        Method same = PlainModel.class.getDeclaredMethod(method.getName(), method.getParameterTypes());
        int want = (Integer) same.invoke(m, numbers);
        try {
            due.is(name, (Integer) method.invoke(x, numbers), want);
        } catch (InvocationTargetException thrown) {
            due.is(name, "thrown: " + thrown.getCause(), String.valueOf(want));
        }
    }

    /** State 0 is a new object, 1 one with something in every place, 2 one that is full everywhere. */
    private static void makeAnew(int state) {
        x = new TreeHashes();
        m = new PlainModel();
        if (state == 0) {
            return;
        }
        int registerBytes = state == 1 ? 32 : 200;
        for (int r = 0; r < 8; r++) {
            for (int had = 0; had < registerBytes; had += 8) {
                x.add(r, 8, r * 77L + had);
                m.add(r, 8, r * 77L + had);
            }
        }
        for (int h = 0; h < 4; h++) {
            int mode = state == 1 ? h % 3 : h % 2 * 2;
            x.begin(h, mode, h);
            m.begin(h, mode, h);
        }
        for (int times = state == 1 ? 1 : 8; times > 0; times--) {
            int n = state == 1 ? 1100 : 5000;
            x.fill(3, n, times, 3);
            m.fill(3, n, times, 3);
        }
        for (int times = state == 1 ? 1 : 4; times > 0; times--) {
            int n = state == 1 ? 2100 : 5000;
            x.grow(n, times, 5);
            m.grow(n, times, 5);
        }
        x.prove(0);
        m.prove(0);
        x.root(7);
        m.root(7);
    }
}
