import java.lang.reflect.InvocationTargetException;
import java.lang.reflect.Method;
import java.lang.reflect.Modifier;
import java.util.ArrayList;
import java.util.Arrays;
import java.util.Comparator;
import java.util.List;

/** Calls with any arguments: only what is thrown by the program's own throw comes out, and it changes nothing. */
final class WildTest {
    private static final int[] NUMBERS = {0, 1, 2, 3, 4, 5, 6, 7, 8, 9, 10, 11, 12, 20, 30, 40, 60, 100, 126, 254, 255,
        256, 300, 301, 480, 900, 901, 1000, -1, -2, -8, 31, 32, 33, 1 << 30, Integer.MAX_VALUE,
        Integer.MAX_VALUE - 1, Integer.MIN_VALUE, Integer.MIN_VALUE + 1};
    private static final String SIGNS = "nesw" + "udh" + "xyz" + "oc-" + "pq" + (char) 0 + (char) 255 + (char) 65535;

    private WildTest() {
    }

    static void run() {
        Method[] all = BendTable.class.getDeclaredMethods();
        Arrays.sort(all, Comparator.comparing(Method::getName));
        List<Method> calls = new ArrayList<>();
        for (Method m : all) {
            int times = m.getName().equals("face") ? 8 : m.getName().equals("part") ? 3 : 1;
            for (int i = 0; Modifier.isPublic(m.getModifiers()) && i < times; i++) {
                calls.add(m);
            }
        }
        for (int run = 0; run < 300; run++) {
            runOnce(run, calls);
        }
    }

    private static void runOnce(int run, List<Method> calls) {
        Draw draw = new Draw(run + 77);
        BendTable shop = new BendTable();
        // The twin hears only of calls that did not throw.
        BendTable twin = new BendTable();
        for (BendTable t : new BendTable[] {shop, twin}) {
            t.gauge(10, 1);
            t.part(0, 40, 40, '-');
            t.stock(0, 300, 300, 'x', 9);
        }
        for (int i = 0; i < 500; i++) {
            Method m = calls.get(draw.from(0, calls.size() - 1));
            Object[] arguments = arguments(draw, m);
            String shown = "wild, run " + run + ", call " + i + ", " + m.getName() + Arrays.toString(arguments);
            try {
                Object got = m.invoke(shop, arguments);
                Check.due(shown + ", of a twin", m.invoke(twin, arguments), got);
            } catch (InvocationTargetException e) {
                Check.due(shown + " threw " + e.getCause(), isOwn(m, e.getCause()));
            } catch (IllegalAccessException e) {
                throw new IllegalStateException(e);
            }
        }
    }

    private static Object[] arguments(Draw draw, Method m) {
        Object[] arguments = new Object[m.getParameterCount()];
        boolean isTame = draw.from(0, 3) > 0;
        for (int i = 0; i < arguments.length; i++) {
            Class<?> type = m.getParameterTypes()[i];
            arguments[i] = type == int.class ? NUMBERS[draw.from(0, isTame && i < 3 ? 3 : isTame ? 18
                    : NUMBERS.length - 1)]
                    : type == char.class ? (Object) draw.oneOf(SIGNS) : (Object) (draw.from(0, 1) == 1);
        }
        return arguments;
    }

    /** Whether the method tells of the exception, and the program itself threw it. */
    private static boolean isOwn(Method m, Throwable thrown) {
        return Arrays.asList(m.getExceptionTypes()).contains(thrown.getClass()) && Check.isOwn(thrown);
    }
}
