import java.lang.reflect.InvocationTargetException;
import java.lang.reflect.Method;
import java.lang.reflect.Modifier;
import java.util.ArrayList;
import java.util.Comparator;
import java.util.List;
import java.util.Random;

/** Any call with any numbers, on full and on empty objects: nothing is thrown, and the oracle answers alike. */
public final class ExtremesTest {
    private static final int CALLS = 512;
    private static final int[] EDGES = {Integer.MIN_VALUE, Integer.MAX_VALUE, -101, -100, -3, -2, -1, 0, 0, 0, 1, 1, 2, 3, 4, 5, 6, 7, 8,
        9, 11, 12, 13, 18, 19, 20, 25, 26, 39, 40, 57, 58, 99, 100, 101, 119, 120, 200, 201, 300, 301, 399, 400, 401, 798, 799, 800,
        1000, 1001, 2000, 2001, 117648, 117649, 99999999, 100000000, 1868981792, 1869572640};

    private final Check check;
    private final Random r;
    private final String about;
    private final HalfDays x = new HalfDays();
    private final Oracle o = new Oracle();
    private int calls;

    private ExtremesTest(Check check, int seed) {
        this.check = check;
        r = new Random(seed);
        about = "seed " + seed + " ";
    }

    public static void main(String[] args) throws ReflectiveOperationException {
        Check check = new Check("ExtremesTest");
        List<Method> methods = new ArrayList<>();
        for (Method m : HalfDays.class.getDeclaredMethods()) {
            if (Modifier.isPublic(m.getModifiers())) {
                methods.add(m);
            }
        }
        methods.sort(Comparator.comparing(Method::getName));
        int seeds = args.length > 0 ? Integer.parseInt(args[0]) : 60;
        for (int seed = 0; seed < seeds; seed++) {
            ExtremesTest run = new ExtremesTest(check, seed);
            if (seed % 3 == 1) {
                run.fillPeople();
            } else if (seed % 3 == 2) {
                run.fillMarks();
            }
            run.anyCalls(methods);
        }
        check.close();
    }

    private void anyCalls(List<Method> methods) throws ReflectiveOperationException {
        while (calls < CALLS) {
            Method m = methods.get(r.nextInt(methods.size()));
            Object[] values = new Object[m.getParameterCount()];
            for (int k = 0; k < values.length; k++) {
                int number = r.nextInt(3) == 0 ? EDGES[r.nextInt(EDGES.length)] : r.nextInt(3);
                boolean flag = r.nextBoolean();
                values[k] = m.getParameterTypes()[k] == boolean.class ? (Object) flag : (Object) number;
                if (m.getName().equals("child") && r.nextInt(3) > 0) {
                    values[k] = k == 1 ? (Object) flag : (Object) (3 + r.nextInt(4));
                }
            }
            both(m, values);
        }
    }

    /** All children, schools, rolls, part days and lists that there is room for. */
    private void fillPeople() throws ReflectiveOperationException {
        for (int i = 0; i < 40; i++) {
            int born = 3 + r.nextInt(16);
            int route = r.nextInt(8);
            both("child", born, r.nextBoolean(), route, r.nextInt(100), r.nextInt(100));
        }
        for (int i = 0; i < 120; i++) {
            if (i < 5) {
                both("school");
            }
            both("comes", i % 40, (i / 40 + i) % 5, r.nextInt(3));
        }
        for (int i = 0; i < 60; i++) {
            both("has", r.nextInt(40), i % 2, r.nextInt(3), 397 + r.nextInt(3));
        }
        for (int i = 0; i < 12; i++) {
            both("record", r.nextInt(1000));
            both("missing", 39 - i, r.nextInt(1000));
            both("visit", 39 - i, 1 + r.nextInt(200), 1 + r.nextInt(3));
            both("draw", 39 - i, r.nextInt(2), r.nextInt(201) - 100);
        }
        both("image", 0);
    }

    /** All marks that there is room for, with acts that tell of them. */
    private void fillMarks() throws ReflectiveOperationException {
        both("child", 9, true, 0, 0, 0);
        both("school");
        both("comes", 0, 0, 0);
        String text = "code a away;code b here;step 0 1 in 400;fine 0 99 quick 9;shut b 1;off if away>3 or bus";
        for (int from = 0; from < text.length(); from += 20) {
            int[] n = Texts.numbers(text, from);
            both("feed", n[0], n[1], n[2], n[3], n[4]);
        }
        both("act", 0);
        while (x.count(3) < 400) {
            int half = r.nextInt(4) == 0 ? 798 + r.nextInt(2) : r.nextInt(57) * 14 + r.nextInt(10);
            both("mark", 0, 0, half, r.nextInt(3), r.nextInt(2), r.nextInt(3) * 199);
        }
        both("image", 1);
    }

    private void both(String name, Object... values) throws ReflectiveOperationException {
        for (Method m : HalfDays.class.getDeclaredMethods()) {
            if (m.getName().equals(name)) {
                both(m, values);
            }
        }
    }

    private void both(Method m, Object[] values) throws ReflectiveOperationException {
        StringBuilder call = new StringBuilder(about + m.getName());
        for (Object value : values) {
            call.append(' ').append(value);
        }
        Method twin = Oracle.class.getDeclaredMethod(m.getName(), m.getParameterTypes());
        check.due(call.toString(), answer(m, x, values, call), answer(twin, o, values, call));
        calls++;
    }

    private static int answer(Method m, Object object, Object[] values, StringBuilder call) throws ReflectiveOperationException {
        try {
            return (Integer) m.invoke(object, values);
        } catch (InvocationTargetException e) {
            throw new IllegalStateException(call.toString(), e);
        }
    }
}
