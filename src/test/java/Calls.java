import java.lang.reflect.InvocationTargetException;
import java.lang.reflect.Method;

/** Makes a call by its name, and tells its answer, or the exception that it throws. */
final class Calls {
    private Calls() {
    }

    static String answer(Object target, String name, int... arguments) {
        Method method = methodOf(target, name);
        Object[] given = new Object[arguments.length];
        for (int i = 0; i < arguments.length; i++) {
            boolean isBoolean = method.getParameterTypes()[i] == boolean.class;
            given[i] = isBoolean ? (Object) (arguments[i] != 0) : (Object) arguments[i];
        }
        try {
            return String.valueOf(method.invoke(target, given));
        } catch (InvocationTargetException e) {
            return "throws." + e.getCause().getClass().getSimpleName();
        } catch (IllegalAccessException e) {
            return "no access to " + name;
        }
    }

    private static Method methodOf(Object target, String name) {
        for (Method method : target.getClass().getDeclaredMethods()) {
            if (method.getName().equals(name)) {
                return method;
            }
        }
        throw new IllegalArgumentException("no method " + name);
    }
}
