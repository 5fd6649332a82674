import java.lang.reflect.Method;
import java.lang.reflect.Modifier;
import java.util.Arrays;
import java.util.Comparator;

/**
 * Every call with every combination of arguments at, beside and far from their bounds, compared with the
 * model: no combination throws, and of several errors the first one is answered.
 */
final class ArgumentsTest {
    private static final Checks C = new Checks("ArgumentsTest");
    /** What later calls of an object answer is free. */
    private static final int MOST_CALLS = 512;
    private static final int[] FEW = {Integer.MIN_VALUE, -1, 0, 1, 2, 3, 30, 31, 32, 262143, 262144, Integer.MAX_VALUE};
    private static final int[] MANY = {Integer.MIN_VALUE, -1, 0, 1, 2, 3, 4, 5, 6, 7, 8, 9, 10, 30, 31, 32, 1000, 1001,
        262143, 262144, Integer.MAX_VALUE};

    private static Method[] made = {};
    private PaletteTurns x;
    private Model model;
    private int calls = MOST_CALLS;

    private final Method method;
    private final int state;

    private ArgumentsTest(Method method, int state) {
        this.method = method;
        this.state = state;
    }

    public static void main(String[] args) throws Exception {
        made = Arrays.stream(PaletteTurns.class.getDeclaredMethods())
            .filter(method -> Modifier.isPublic(method.getModifiers()))
            .sorted(Comparator.comparing(Method::getName)).toArray(Method[]::new);
        for (Method method : made) {
            for (int state = 0; state < 3; state++) {
                new ArgumentsTest(method, state).combine(new Object[method.getParameterCount()], 0);
            }
        }
        C.end();
    }

    private void combine(Object[] arguments, int chosen) throws Exception {
        if (chosen == arguments.length) {
            ask(arguments);
            return;
        }
        Class<?> type = method.getParameterTypes()[chosen];
        for (int number : type == boolean.class ? new int[] {0, 1} : arguments.length > 3 ? FEW : MANY) {
            arguments[chosen] = type == boolean.class ? number == 1 : type == char.class ? (Object) (char) number : number;
            combine(arguments, chosen + 1);
        }
    }

    private void ask(Object[] arguments) throws Exception {
        if (calls == MOST_CALLS) {
            begin();
        }
        due(method.getName(), arguments);
    }

    private void due(String name, Object... arguments) throws Exception {
        calls++;
        for (Method call : made) {
            if (call.getName().equals(name)) {
                Method ofModel = Model.class.getDeclaredMethod(name, call.getParameterTypes());
                C.due("state " + state + ", " + name + Arrays.toString(arguments),
                    ((Number) call.invoke(x, arguments)).longValue(), ((Number) ofModel.invoke(model, arguments)).longValue());
            }
        }
    }

    /** New; with three ranges and two glows; with as many as there can be. */
    private void begin() throws Exception {
        x = new PaletteTurns();
        model = new Model();
        calls = 0;
        int ranges = 3 * state;
        for (int range = 0; range < ranges; range++) {
            due("addRange", 2 + 4 * range, 4 + 4 * range, 1 + range, range % 3);
        }
        for (int glow = 0; glow < 2 * state; glow++) {
            due("addGlow", 3 + 5 * glow, 63, 1 + 9 * glow);
        }
        if (state > 0) {
            due("keep");
            due("blend", 1, 30, 262143, 0);
            due("fill", 0, 0, 3);
            due("paint", 7, 7, 8);
            due("pass", 7);
            due("run", 1, false);
        }
    }
}
