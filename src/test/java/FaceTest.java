import java.lang.reflect.Constructor;
import java.lang.reflect.Field;
import java.lang.reflect.Method;
import java.lang.reflect.Modifier;
import java.util.Arrays;
import java.util.TreeSet;

/** The constants and the public face, and nothing else that can be seen from outside. */
public final class FaceTest {
    private static final String[] METHODS = {
        "come 1", "setSpades 2", "addBank 2", "setAllowance 2", "grant 3",
        "cut 3", "turn 1", "join 2", "cart 2", "repair 1", "day 2", "endYear 0",
        "take 1", "restore 1", "undo 0",
        "append 1", "clearText 0", "run 0",
        "count 1", "household 2", "bank 2", "right 3", "stack 2",
        "dryIn 3", "cartLoad 1", "carts 1", "worth 2", "nextToCut 1",
    };
    private static final String[] CONSTANTS = {
        "INVALID_ARGUMENT", "ILLEGAL_STATE", "CAPACITY_EXCEEDED", "NONE",
    };

    public static void main(String[] args) {
        Checks checks = new Checks("FaceTest");
        checks.due("INVALID_ARGUMENT", PeatShares.INVALID_ARGUMENT, -1);
        checks.due("ILLEGAL_STATE", PeatShares.ILLEGAL_STATE, -2);
        checks.due("CAPACITY_EXCEEDED", PeatShares.CAPACITY_EXCEEDED, -3);
        checks.due("NONE", PeatShares.NONE, -9);
        checks.due("the class is final", Modifier.isFinal(PeatShares.class.getModifiers()) ? 1 : 0, 1);
        methods(checks);
        fields(checks);
        constructors(checks);
        for (Class<?> inside : PeatShares.class.getDeclaredClasses()) {
            checks.due(inside + " is static", Modifier.isStatic(inside.getModifiers()) ? 1 : 0, 1);
            checks.due(inside + " is public", Modifier.isPublic(inside.getModifiers()) ? 1 : 0, 0);
        }
        checks.end();
    }

    private static void methods(Checks checks) {
        TreeSet<String> found = new TreeSet<>();
        TreeSet<String> names = new TreeSet<>();
        for (String method : METHODS) {
            names.add(method.split(" ")[0]);
        }
        for (Method method : PeatShares.class.getDeclaredMethods()) {
            if (Modifier.isPrivate(method.getModifiers())) {
                checks.due("a private method is named " + method.getName(), names.contains(method.getName()) ? 1 : 0, 0);
                continue;
            }
            found.add(method.getName() + " " + method.getParameterCount());
            checks.due(method + " is public", Modifier.isPublic(method.getModifiers()) ? 1 : 0, 1);
            checks.due(method + " answers int", method.getReturnType() == int.class ? 1 : 0, 1);
            for (Class<?> type : method.getParameterTypes()) {
                checks.due(method + " takes int", type == int.class ? 1 : 0, 1);
            }
        }
        checks.due("the methods " + found, found.equals(new TreeSet<>(Arrays.asList(METHODS))) ? 1 : 0, 1);
    }

    private static void fields(Checks checks) {
        TreeSet<String> found = new TreeSet<>();
        for (Field field : PeatShares.class.getDeclaredFields()) {
            int modifiers = field.getModifiers();
            if (Modifier.isStatic(modifiers)) {
                checks.due(field + " is final", Modifier.isFinal(modifiers) ? 1 : 0, 1);
            }
            if (!Modifier.isPrivate(modifiers)) {
                found.add(field.getName());
                checks.due(field + " is public", Modifier.isPublic(modifiers) ? 1 : 0, 1);
                checks.due(field + " is static", Modifier.isStatic(modifiers) ? 1 : 0, 1);
            }
        }
        checks.due("the fields " + found, found.equals(new TreeSet<>(Arrays.asList(CONSTANTS))) ? 1 : 0, 1);
    }

    private static void constructors(Checks checks) {
        Constructor<?>[] all = PeatShares.class.getDeclaredConstructors();
        checks.due("the number of constructors", all.length, 1);
        checks.due("its parameters", all[0].getParameterCount(), 0);
        checks.due("it is public", Modifier.isPublic(all[0].getModifiers()) ? 1 : 0, 1);
    }
}
