import java.lang.reflect.InvocationTargetException;
import java.lang.reflect.Method;
import java.lang.reflect.Modifier;
import java.util.ArrayList;
import java.util.Arrays;
import java.util.Comparator;
import java.util.List;

/** All promises: each call with all its arguments at every bound, beside it and far off: none throws, all answer as SlowModel. */
final class ExtremesTest {
    private static final Check CHECK = new Check();
    private static final int[] BOUNDS = {Integer.MIN_VALUE, Integer.MIN_VALUE + 1, -10000, -2, -1, 0, 1, 2, 3, 4, 5, 7, 8, 9, 10,
        12, 13, 19, 20, 27, 300, 428, 429, 999, 1000, 9999, 10000, Integer.MAX_VALUE - 1, Integer.MAX_VALUE};
    private static final int[] FEW = {Integer.MIN_VALUE, -2, -1, 0, 1, 3, 4, 8, 9, 999, 1000, 9999, 10000, Integer.MAX_VALUE};
    private static final int[] FED = {Integer.MIN_VALUE, -1, 0x31203220, Integer.MAX_VALUE};

    private final DiamondRows x = new DiamondRows();
    private final SlowModel y = new SlowModel();

    public static void main(String[] args) throws ReflectiveOperationException {
        List<Method> methods = new ArrayList<>();
        for (Method method : DiamondRows.class.getDeclaredMethods()) {
            if (Modifier.isPublic(method.getModifiers())) {
                methods.add(method);
            }
        }
        methods.sort(Comparator.comparing(Method::getName));
        CHECK.due("methods", methods.size(), 38);
        for (int corners : new int[] {4, 6, 9}) {
            for (Method method : methods) {
                ExtremesTest test = new ExtremesTest();
                test.prepare(corners);
                test.all(method, new Object[method.getParameterCount()], 0);
            }
        }
        CHECK.finish();
    }

    /** Something of all that an object can hold. */
    private void prepare(int corners) throws ReflectiveOperationException {
        one("take", corners, 1);
        one("ofCut");
        one("fewest", 0);
        one("see", 1, 0, 2, 1);
        one("see", 3, 1, 3, 2);
        one("right", 4, 0, 2);
        one("feed", 0x31203220, 0x33203120, 0x20202020, 0x20202020, 0x20202020);
    }

    private void one(String name, int... numbers) throws ReflectiveOperationException {
        Class<?>[] types = new Class<?>[numbers.length];
        Arrays.fill(types, int.class);
        Object[] arguments = Arrays.stream(numbers).boxed().toArray();
        ask(DiamondRows.class.getDeclaredMethod(name, types), arguments);
    }

    private void all(Method method, Object[] arguments, int at) throws ReflectiveOperationException {
        if (at == arguments.length) {
            ask(method, arguments);
            return;
        }
        if (method.getParameterTypes()[at] == boolean.class) {
            for (boolean value : new boolean[] {false, true}) {
                arguments[at] = value;
                all(method, arguments, at + 1);
            }
            return;
        }
        int[] values = arguments.length < 4 ? BOUNDS : arguments.length == 4 ? FEW : FED;
        for (int value : values) {
            arguments[at] = value;
            all(method, arguments, at + 1);
        }
    }

    private void ask(Method method, Object[] arguments) throws ReflectiveOperationException {
        Method model = SlowModel.class.getDeclaredMethod(method.getName(), method.getParameterTypes());
        String call = method.getName() + Arrays.toString(arguments);
        try {
            long got = ((Number) method.invoke(x, arguments)).longValue();
            CHECK.due(call, got, ((Number) model.invoke(y, arguments)).longValue());
        } catch (InvocationTargetException thrown) {
            CHECK.holds(call + " threw " + thrown.getCause(), false);
        }
    }
}
