import java.lang.reflect.InvocationTargetException;
import java.lang.reflect.Method;
import java.util.Arrays;
import java.util.HashMap;
import java.util.List;
import java.util.Map;

/** Makes calls by their names; what a call throws is its answer, written "throws." and the name of the exception. */
final class Calls {
    private static final Map<String, Method> METHODS = new HashMap<>();

    static {
        for (Method method : Refereehall.class.getMethods()) {
            METHODS.put(method.getName(), method);
        }
    }

    private Calls() {
    }

    static Class<?>[] types(String name) {
        return METHODS.get(name).getParameterTypes();
    }

    /** What the face names for a call, in its order. */
    static List<Class<?>> listed(String name) {
        return Arrays.asList(METHODS.get(name).getExceptionTypes());
    }

    static boolean hasThrown(Object answer) {
        return answer instanceof String;
    }

    static Object make(Refereehall land, String name, Object... arguments) {
        try {
            return METHODS.get(name).invoke(land, arguments);
        } catch (InvocationTargetException e) {
            Class<?> thrown = e.getCause().getClass();
            Check.due(name + Arrays.toString(arguments) + " may throw " + thrown.getName(),
                    listed(name).contains(thrown), true);
            return "throws." + thrown.getSimpleName();
        } catch (IllegalAccessException e) {
            throw new IllegalStateException(e);
        }
    }
}
