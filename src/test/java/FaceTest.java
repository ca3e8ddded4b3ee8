import java.lang.reflect.Constructor;
import java.lang.reflect.Field;
import java.lang.reflect.Method;
import java.lang.reflect.Modifier;
import java.util.Arrays;
import java.util.Set;
import java.util.TreeSet;

/** The public face: what the document lists, and nothing else. */
final class FaceTest {
    private static final Set<String> METHODS = new TreeSet<>(Arrays.asList(
            "int dump(int, int, int)", "int setLevel(int)", "int set(int, int)", "int wave(int, int)",
            "int waveAll()", "int strike(int, int)", "int run(int)", "int settle()", "int type(char)",
            "int clearText()", "int undo()", "int keep()", "int restore()", "int cell(int, int, int)",
            "int row(int, int)", "int waiting(int, boolean)", "int ended(int, int)", "int would(int, int, int)",
            "int sand(int, int)", "int count(int)"));

    private FaceTest() {
    }

    static void test(Check check) {
        check.begin("the face");
        check.due("UNKNOWN", BeachBars.UNKNOWN, -1001);
        check.due("BAD_VALUE", BeachBars.BAD_VALUE, -1002);
        check.due("FULL", BeachBars.FULL, -1003);
        check.due("NOT_POSSIBLE", BeachBars.NOT_POSSIBLE, -1004);
        check.due("NONE", BeachBars.NONE, -1005);
        int modifiers = BeachBars.class.getModifiers();
        check.holds("the class is public and final", Modifier.isPublic(modifiers) && Modifier.isFinal(modifiers));
        methods(check);
        fields(check);
        for (Constructor<?> constructor : BeachBars.class.getDeclaredConstructors()) {
            check.holds("one public constructor without parameters",
                    Modifier.isPublic(constructor.getModifiers()) && constructor.getParameterCount() == 0);
        }
        for (Class<?> inside : BeachBars.class.getDeclaredClasses()) {
            int inner = inside.getModifiers();
            check.holds(inside + " is static and not public", Modifier.isStatic(inner)
                    && !Modifier.isPublic(inner) && !Modifier.isProtected(inner));
        }
    }

    private static void methods(Check check) {
        Set<String> found = new TreeSet<>();
        Set<String> names = new TreeSet<>();
        for (String method : METHODS) {
            names.add(method.substring(4, method.indexOf('(')));
        }
        for (Method method : BeachBars.class.getDeclaredMethods()) {
            if (Modifier.isPrivate(method.getModifiers())) {
                check.holds(method + " has a name of its own", !names.contains(method.getName()));
                continue;
            }
            StringBuilder parameters = new StringBuilder();
            for (Class<?> type : method.getParameterTypes()) {
                parameters.append(parameters.length() == 0 ? "" : ", ").append(type);
            }
            found.add(method.getReturnType() + " " + method.getName() + "(" + parameters + ")");
            check.holds(method + " is public", Modifier.isPublic(method.getModifiers()));
        }
        check.holds("the methods are those of the document, not " + found, found.equals(METHODS));
    }

    private static void fields(Check check) {
        Set<String> found = new TreeSet<>();
        for (Field field : BeachBars.class.getDeclaredFields()) {
            int modifiers = field.getModifiers();
            if (Modifier.isStatic(modifiers)) {
                check.holds(field + " is final", Modifier.isFinal(modifiers));
            }
            if (!Modifier.isPrivate(modifiers)) {
                found.add(field.getName());
                check.holds(field + " is a public constant", Modifier.isPublic(modifiers)
                        && Modifier.isStatic(modifiers) && field.getType() == int.class);
            }
        }
        Set<String> due = new TreeSet<>(Arrays.asList("UNKNOWN", "BAD_VALUE", "FULL", "NOT_POSSIBLE", "NONE"));
        check.holds("the constants are those of the document, not " + found, found.equals(due));
    }
}
