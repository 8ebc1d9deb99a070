import java.lang.reflect.Constructor;
import java.lang.reflect.Field;
import java.lang.reflect.Method;
import java.lang.reflect.Modifier;
import java.util.Arrays;
import java.util.Set;
import java.util.TreeSet;

/** The class has the document's face and shows nothing else. */
public final class FaceTest {
    private static final Set<String> FACE = new TreeSet<>(Arrays.asList(
        "int jug(int, int)", "boolean goal(int, int)", "int jugs()", "boolean unit(int)", "int crossing()",
        "int step(int, boolean)", "int weigh(int, int)", "long tower(int, int)", "int towerMove(long, int)",
        "long rings(int)", "long ring(int, long)"));

    public static void main(String[] args) {
        Checks checks = new Checks();
        Class<?> type = StatePuzzles.class;
        checks.due("the class's modifiers", type.getModifiers(), Modifier.PUBLIC | Modifier.FINAL);
        checkMethods(checks, type);
        Constructor<?>[] constructors = type.getDeclaredConstructors();
        checks.due("how many constructors", constructors.length, 1);
        checks.due("the constructor's parameters", constructors[0].getParameterCount(), 0);
        checks.holds("the constructor is public", Modifier.isPublic(constructors[0].getModifiers()));
        for (Field field : type.getDeclaredFields()) {
            checks.holds(field + " is private", Modifier.isPrivate(field.getModifiers()));
        }
        for (Class<?> inside : type.getDeclaredClasses()) {
            checks.holds(inside + " is static", Modifier.isStatic(inside.getModifiers()));
            checks.holds(inside + " is not public", !Modifier.isPublic(inside.getModifiers()));
        }
        checks.end();
    }

    private static void checkMethods(Checks checks, Class<?> type) {
        Set<String> names = new TreeSet<>();
        for (String text : FACE) {
            names.add(text.substring(text.indexOf(' ') + 1, text.indexOf('(')));
        }
        Set<String> shown = new TreeSet<>();
        for (Method method : type.getDeclaredMethods()) {
            if (Modifier.isPublic(method.getModifiers())) {
                shown.add(written(method));
            } else {
                checks.holds(method + " is private", Modifier.isPrivate(method.getModifiers()));
                checks.holds(method + " has a name of its own", !names.contains(method.getName()));
            }
        }
        checks.holds("the public methods are " + FACE + ", they are " + shown, shown.equals(FACE));
    }

    private static String written(Method method) {
        String parameters = Arrays.toString(method.getParameterTypes());
        return method.getReturnType() + " " + method.getName() + "("
            + parameters.substring(1, parameters.length() - 1) + ")";
    }
}
