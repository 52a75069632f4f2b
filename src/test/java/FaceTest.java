import java.lang.reflect.Constructor;
import java.lang.reflect.Field;
import java.lang.reflect.Method;
import java.lang.reflect.Modifier;
import java.util.Arrays;
import java.util.TreeSet;

/** "The public face" of the document, and NONE. */
public final class FaceTest {
    private static final Checks checks = new Checks("face");

    private static final String[] METHODS = {
        "int append(int)", "int clearText()", "int errorPosition()", "int load()",
        "int about(int)", "int playerOf(int, int)", "int cellOf(int, int, int)",
        "int course(int, int)", "int setting(int)", "int game(long)", "int step(int)",
        "int dam(int, int)", "int flood()", "int set(int, int)", "int undo()", "int why(int)",
        "int whyDam(int, int)", "int cheapest(int, int)", "int meetsIn(int)",
        "int leastWished()", "int best()", "int runScript(int, long)", "int simulate(long, int)",
        "int save(int)", "int restore(int)"
    };

    public static void main(String[] args) throws ReflectiveOperationException {
        methods();
        constructor();
        constant();
        checks.end();
    }

    private static void methods() {
        TreeSet<String> found = new TreeSet<>();
        for (Method method : RiverMeeting.class.getDeclaredMethods()) {
            if (Modifier.isPublic(method.getModifiers())) {
                String parameters = Arrays.toString(method.getParameterTypes());
                found.add(method.getReturnType() + " " + method.getName() + "("
                        + parameters.substring(1, parameters.length() - 1) + ")");
                checks.isTrue(method.getName() + " is of an object",
                        !Modifier.isStatic(method.getModifiers()));
            }
        }
        checks.due("the public methods", found.toString(),
                new TreeSet<>(Arrays.asList(METHODS)).toString());
    }

    private static void constructor() {
        int modifiers = RiverMeeting.class.getModifiers();
        checks.isTrue("the class is public and final",
                Modifier.isPublic(modifiers) && Modifier.isFinal(modifiers));
        Constructor<?>[] found = RiverMeeting.class.getConstructors();
        checks.due("public constructors", found.length, 1);
        checks.due("parameters of the constructor", found[0].getParameterCount(), 0);
    }

    private static void constant() throws ReflectiveOperationException {
        Field[] found = RiverMeeting.class.getFields();
        checks.due("public constants", found.length, 1);
        Field none = RiverMeeting.class.getField("NONE");
        int modifiers = none.getModifiers();
        checks.isTrue("NONE is a constant of the type int", none.getType() == int.class
                && Modifier.isStatic(modifiers) && Modifier.isFinal(modifiers));
        checks.due("NONE", none.getInt(null), -1);
    }
}
