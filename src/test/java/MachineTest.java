import java.lang.reflect.InvocationTargetException;
import java.lang.reflect.Method;
import java.lang.reflect.Modifier;
import java.util.ArrayList;
import java.util.Arrays;
import java.util.List;
import java.util.Random;

/**
 * Any arguments in any state, far behind the 512th call too: what is thrown is thrown by the program's own throw, and
 * is of a class that the method tells.
 */
final class MachineTest {
    private static final int[] EDGES = {0, 0, 0, 0, 1, 1, 2, 3, 4, 5, 6, 7, 9, 10, 12, 15, 16, 20, 29, 30, 31, 39, 40,
        41, 50, 60, 61, 100, 200, 359, 360, 400, 401, 500, 600, 1000, 1001, 99938, 99939, 99940, 99999, 100000, -1, -2,
        -5, Integer.MAX_VALUE, Integer.MIN_VALUE, Integer.MAX_VALUE - 1, 1 << 15, 1 << 16};

    private MachineTest() {
    }

    static void run() {
        List<Method> methods = new ArrayList<>();
        for (Method method : Prioritywave.class.getDeclaredMethods()) {
            if (Modifier.isPublic(method.getModifiers())) {
                methods.add(method);
            }
        }
        methods.sort((one, other) -> one.getName().compareTo(other.getName()));
        for (int seed = 0; seed < 40; seed++) {
            Random dice = new Random(seed);
            Prioritywave x = seed % 2 == 0 ? new Prioritywave() : EventTest.tour(16);
            for (int call = 0; call < 4000; call++) {
                call(x, methods.get(dice.nextInt(methods.size())), dice);
            }
        }
        manyActs();
    }

    private static void call(Prioritywave x, Method method, Random dice) {
        Object[] arguments = new Object[method.getParameterCount()];
        for (int i = 0; i < arguments.length; i++) {
            Class<?> type = method.getParameterTypes()[i];
            int edge = dice.nextInt(9) == 0 ? dice.nextInt() : EDGES[dice.nextInt(EDGES.length)];
            if (type == boolean.class) {
                arguments[i] = dice.nextBoolean();
            } else if (type == char.class) {
                arguments[i] = dice.nextInt(3) == 0 ? (char) edge : dice.nextBoolean() ? 'p' : 'n';
            } else {
                arguments[i] = edge;
            }
        }
        try {
            method.invoke(x, arguments);
        } catch (IllegalAccessException wrong) {
            throw new IllegalStateException(wrong);
        } catch (InvocationTargetException invoked) {
            Throwable thrown = invoked.getCause();
            StackTraceElement[] trace = thrown.getStackTrace();
            boolean isOwn = trace.length == 0 || trace[0].getClassName().equals("Prioritywave");
            boolean isTold = Arrays.asList(method.getExceptionTypes()).contains(thrown.getClass());
            boolean isDivision = String.valueOf(thrown.getMessage()).contains("by zero");
            if (!isOwn || !isTold || isDivision) {
                Check.tell(false, method.getName() + Arrays.toString(arguments), thrown.toString(), "a told exception");
            }
        }
    }

    private static void manyActs() {
        Prioritywave x = HeatTest.withSurfers(4);
        x.heat(0, 0, 60, 15);
        int told = 0;
        for (int i = 0; i < 2000; i++) {
            try {
                x.suspend(0, i % 4, 0);
                told++;
            } catch (UnsupportedOperationException refused) {
                Check.yes("none is refused ahead of the 512th", told >= 512);
            }
        }
        Check.yes("42: sound behind so many acts", x.isSound());
    }
}
