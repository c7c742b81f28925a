import java.lang.reflect.InvocationTargetException;
import java.lang.reflect.Method;
import java.lang.reflect.Modifier;
import java.util.ArrayList;
import java.util.Comparator;
import java.util.List;
import java.util.Random;

/** Any call with any numbers, on full and on empty objects: nothing is thrown, and the oracle answers alike. */
public final class ExtremesTest {
    private static final int[] EDGES = {Integer.MIN_VALUE, Integer.MAX_VALUE, -101, -100, -3, -2, -1, 0, 0, 0, 1, 1, 2, 3, 4, 5, 6, 7, 8,
        9, 11, 12, 13, 18, 19, 20, 25, 26, 39, 40, 57, 58, 99, 100, 101, 200, 201, 300, 301, 399, 400, 401, 798, 799, 800, 1000, 1001,
        2000, 2001, 99999999, 100000000, 1868981792, 1869572640};

    public static void main(String[] args) throws ReflectiveOperationException {
        Check check = new Check("ExtremesTest");
        List<Method> methods = new ArrayList<>();
        for (Method m : HalfDays.class.getDeclaredMethods()) {
            if (Modifier.isPublic(m.getModifiers())) {
                methods.add(m);
            }
        }
        methods.sort(Comparator.comparing(Method::getName));
        for (int seed = 0; seed < 60; seed++) {
            oneRun(check, methods, new Random(seed), seed);
        }
        check.close();
    }

    private static void oneRun(Check check, List<Method> methods, Random r, int seed) throws ReflectiveOperationException {
        HalfDays x = new HalfDays();
        Oracle o = new Oracle();
        for (int i = 0; i < 512; i++) {
            Method m = methods.get(r.nextInt(methods.size()));
            Object[] values = new Object[m.getParameterCount()];
            StringBuilder call = new StringBuilder("seed " + seed + " " + m.getName());
            for (int k = 0; k < values.length; k++) {
                int number = r.nextInt(3) == 0 ? EDGES[r.nextInt(EDGES.length)] : r.nextInt(3);
                boolean flag = r.nextBoolean();
                values[k] = m.getParameterTypes()[k] == boolean.class ? (Object) flag : (Object) number;
                if (m.getName().equals("child") && r.nextInt(3) > 0) {
                    values[k] = k == 1 ? (Object) flag : (Object) (3 + r.nextInt(4));
                }
                call.append(' ').append(values[k]);
            }
            Method twin = Oracle.class.getDeclaredMethod(m.getName(), m.getParameterTypes());
            check.due(call.toString(), answer(m, x, values, call), answer(twin, o, values, call));
        }
    }

    private static int answer(Method m, Object object, Object[] values, StringBuilder call) throws ReflectiveOperationException {
        try {
            return (Integer) m.invoke(object, values);
        } catch (InvocationTargetException e) {
            throw new IllegalStateException(call.toString(), e);
        }
    }
}
