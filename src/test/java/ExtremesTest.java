import java.lang.reflect.InvocationTargetException;
import java.lang.reflect.Method;

/** Each method with all combinations of numbers at and far beyond its bounds: the model's answer, nothing thrown. */
public final class ExtremesTest {
    private static final int[] NUMBERS = {Integer.MIN_VALUE, -20, -2, -1, 0, 1, 2, 3, 4, 5, 6, 7, 8, 9, 10, 19, 20, 31,
        32, 35, 36, 63, 64, 250, Integer.MAX_VALUE};
    private static final String PLAN = "garden 5 4;hedge 7;hedge 11;fountain 19;wind 1;person 0 6 3;person 2 8 2;"
        + "person 3 16 9;person 4 15 4;person 5 10 0;tell 0 1;tell 2 3;";
    private static HeardSeen x;
    private static Model m;
    private static int made;
    private static int wrong;

    public static void main(String[] args) throws ReflectiveOperationException {
        for (Method method : HeardSeen.class.getDeclaredMethods()) {
            if (java.lang.reflect.Modifier.isPublic(method.getModifiers())) {
                layAnew();
                tryAll(method, new Object[method.getParameterCount()], 0);
            }
        }
        System.out.println(wrong == 0 ? "ExtremesTest: as due" : "ExtremesTest: " + wrong + " wrong");
        System.exit(wrong == 0 ? 0 : 1);
    }

    private static void layAnew() {
        x = new HeardSeen();
        m = new Model();
        for (char c : PLAN.toCharArray()) {
            x.type(c, 1);
            m.type(c, 1);
        }
        x.read();
        m.read();
        x.report(0, 0);
        m.report(0, 0);
        made = PLAN.length() + 2;
    }

    private static void tryAll(Method method, Object[] values, int at) throws ReflectiveOperationException {
        if (at == values.length) {
            tryOne(method, values);
            return;
        }
        Class<?> type = method.getParameterTypes()[at];
        if (type == boolean.class) {
            for (boolean is : new boolean[] {true, false}) {
                values[at] = is;
                tryAll(method, values, at + 1);
            }
            return;
        }
        for (int v : NUMBERS) {
            values[at] = type == long.class ? (Object) (v * 4294967297L) : (Object) v;
            tryAll(method, values, at + 1);
        }
    }

    private static void tryOne(Method method, Object[] values) throws ReflectiveOperationException {
        Method other = Model.class.getDeclaredMethod(method.getName(), method.getParameterTypes());
        Object got;
        try {
            got = method.invoke(x, values);
        } catch (InvocationTargetException thrown) {
            got = thrown.getCause();
        }
        Object want = other.invoke(m, values);
        boolean asModel = want.equals(got) && x.digest() == m.digest();
        for (int what = 0; what < 3; what++) {
            asModel &= x.status(what) == m.status(what);
        }
        if (!asModel) {
            wrong++;
            System.out.println(method.getName() + java.util.Arrays.toString(values) + " answered " + got
                + ", due is " + want);
        }
        made += 5;
        if (made > 480) {
            layAnew();
        }
    }
}
