import java.lang.reflect.InvocationTargetException;
import java.lang.reflect.Method;
import java.lang.reflect.Modifier;
import java.util.Arrays;
import java.util.HashMap;
import java.util.Map;

/** Calls methods by their names and tells the answers; an exception answers "throws." and its exact class. */
final class Calls {
    private static final Map<Class<?>, Map<String, Method>> METHODS = new HashMap<>();
    private static int wrong = 0;
    private static int checked = 0;

    private Calls() {
    }

    private static Method method(Class<?> of, String name) {
        Map<String, Method> methods = METHODS.computeIfAbsent(of, c -> new HashMap<>());
        if (methods.isEmpty()) {
            for (Method each : of.getDeclaredMethods()) {
                if (!Modifier.isPrivate(each.getModifiers())) {
                    each.setAccessible(true);
                    methods.put(each.getName(), each);
                }
            }
        }
        return methods.get(name);
    }

    static Object answer(Object of, String name, Object... arguments) {
        try {
            return method(of.getClass(), name).invoke(of, arguments);
        } catch (InvocationTargetException e) {
            return "throws." + e.getCause().getClass().getSimpleName();
        } catch (IllegalAccessException e) {
            throw new IllegalStateException(e);
        }
    }

    static boolean check(String what, Object got, Object due) {
        checked++;
        if (due.equals(got)) {
            return true;
        }
        wrong++;
        System.out.println(what + " answered " + got + ", due is " + due);
        return false;
    }

    static String told(String name, Object... arguments) {
        return name + Arrays.toString(arguments);
    }

    static void end(String what) {
        System.out.println(what + ": " + checked + " checked, " + wrong + " wrong");
        if (wrong > 0 || checked == 0) {
            System.exit(1);
        }
    }
}
