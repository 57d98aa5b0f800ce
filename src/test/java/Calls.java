import java.lang.reflect.InvocationTargetException;
import java.lang.reflect.Method;
import java.util.Arrays;

/** Calls methods by their names and tells the answers; an exception answers "throws." and its exact class. */
final class Calls {
    private static int wrong = 0;
    private static int checked = 0;

    private Calls() {
    }

    static Object answer(Object of, String name, Object... arguments) {
        Method method = null;
        for (Method each : of.getClass().getDeclaredMethods()) {
            boolean isCallable = !java.lang.reflect.Modifier.isPrivate(each.getModifiers());
            if (isCallable && each.getName().equals(name)) {
                method = each;
            }
        }
        try {
            method.setAccessible(true);
            return method.invoke(of, arguments);
        } catch (InvocationTargetException e) {
            return "throws." + e.getCause().getClass().getSimpleName();
        } catch (IllegalAccessException e) {
            throw new IllegalStateException(e);
        }
    }

    static boolean check(String what, Object got, Object due) {
        checked++;
        if (due.equals(got)) {
            return true;
        }
        wrong++;
        System.out.println(what + " answered " + got + ", due is " + due);
        return false;
    }

    static String told(String name, Object... arguments) {
        return name + Arrays.toString(arguments);
    }

    static void end(String what) {
        System.out.println(what + ": " + checked + " checked, " + wrong + " wrong");
        if (wrong > 0 || checked == 0) {
            System.exit(1);
        }
    }
}
