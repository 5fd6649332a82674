import java.lang.reflect.Constructor;
import java.lang.reflect.Field;
import java.lang.reflect.Method;
import java.lang.reflect.Modifier;
import java.util.Arrays;
import java.util.TreeSet;
import java.util.stream.Collectors;

/** The public face is the document's one, and nothing else can be seen from outside. */
final class FaceTest {
    private static final Checks C = new Checks("FaceTest");

    private static final String[] METHODS = {
        "int setColour(int, int)", "int blend(int, int, int, int)", "int freeze()",
        "int addRange(int, int, int, int)", "int removeRange(int)", "int setSpeed(int, int, int)",
        "int run(int, boolean)", "int addGlow(int, int, int)", "int removeGlow(int)", "int pass(int)",
        "int perform()", "int type(char)", "int clearText()", "int paint(int, int, int)", "int fill(int, int, int)",
        "int undo()", "int keep()", "int restore()", "int colour(int)", "int shown(int)", "int range(int, int)",
        "int glow(int, int)", "int pixel(int, int, boolean)", "int total(int)", "int shownIn(int, int)",
        "long fullTurn()", "int nearest(int)", "int changes(int)", "int pictureBack()", "int contrast()",
    };

    public static void main(String[] args) {
        constants();
        methods();
        C.end();
    }

    private static void constants() {
        C.due("UNKNOWN", PaletteTurns.UNKNOWN, -1);
        C.due("OUT_OF_RANGE", PaletteTurns.OUT_OF_RANGE, -2);
        C.due("FULL", PaletteTurns.FULL, -3);
        C.due("NOT_POSSIBLE", PaletteTurns.NOT_POSSIBLE, -4);
        C.due("NONE", PaletteTurns.NONE, -5);
        TreeSet<String> seen = new TreeSet<>();
        for (Field field : PaletteTurns.class.getDeclaredFields()) {
            if (!Modifier.isPrivate(field.getModifiers())) {
                seen.add(field.getName());
                C.holds(field + " is an int constant", field.getType() == int.class
                    && field.getModifiers() == (Modifier.PUBLIC | Modifier.STATIC | Modifier.FINAL));
            }
        }
        same("constants", seen, new TreeSet<>(Arrays.asList("UNKNOWN", "OUT_OF_RANGE", "FULL", "NOT_POSSIBLE", "NONE")));
    }

    private static void methods() {
        C.holds("public final class", PaletteTurns.class.getModifiers() == (Modifier.PUBLIC | Modifier.FINAL));
        Constructor<?>[] made = PaletteTurns.class.getDeclaredConstructors();
        C.holds("one public constructor without parameters", made.length == 1
            && made[0].getModifiers() == Modifier.PUBLIC && made[0].getParameterCount() == 0);
        TreeSet<String> seen = new TreeSet<>();
        TreeSet<String> publicNames = new TreeSet<>();
        for (Method method : PaletteTurns.class.getDeclaredMethods()) {
            if (!Modifier.isPrivate(method.getModifiers())) {
                C.holds(method + " is public and no more", method.getModifiers() == Modifier.PUBLIC);
                C.due(method + " throws", method.getExceptionTypes().length, 0);
                seen.add(written(method));
                publicNames.add(method.getName());
            }
        }
        same("methods", seen, new TreeSet<>(Arrays.asList(METHODS)));
        for (Method method : PaletteTurns.class.getDeclaredMethods()) {
            C.holds(method + " bears no public name", !Modifier.isPrivate(method.getModifiers())
                || !publicNames.contains(method.getName()));
        }
        for (Class<?> within : PaletteTurns.class.getDeclaredClasses()) {
            C.holds(within + " is static, and neither public nor protected", Modifier.isStatic(within.getModifiers())
                && !Modifier.isPublic(within.getModifiers()) && !Modifier.isProtected(within.getModifiers()));
            for (Method method : within.getDeclaredMethods()) {
                C.holds(method + " bears no public name", !publicNames.contains(method.getName()));
            }
        }
    }

    private static String written(Method method) {
        return Arrays.stream(method.getParameterTypes()).map(Class::getName)
            .collect(Collectors.joining(", ", method.getReturnType().getName() + " " + method.getName() + "(", ")"));
    }

    private static void same(String what, TreeSet<String> seen, TreeSet<String> due) {
        C.holds(what + " are " + seen + ", due are " + due, seen.equals(due));
    }
}
