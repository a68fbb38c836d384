import java.lang.reflect.InvocationTargetException;
import java.lang.reflect.Method;
import java.util.HashMap;
import java.util.Map;
import java.util.Set;
import java.util.TreeSet;

/** Calls of the face by their names, on the hall or on the plain one. */
final class Call {
    private static final Map<String, Method> METHODS = new HashMap<>();
    private static final Map<String, Method> PLAIN_METHODS = new HashMap<>();

    static {
        for (Method method : Morphichall.class.getMethods()) {
            if (method.getDeclaringClass() == Morphichall.class) {
                METHODS.put(method.getName(), method);
                PLAIN_METHODS.put(method.getName(), ofPlainHall(method));
            }
        }
    }

    private static Method ofPlainHall(Method method) {
        try {
            return PlainHall.class.getDeclaredMethod(method.getName(), method.getParameterTypes());
        } catch (NoSuchMethodException e) {
            throw new IllegalStateException(e);
        }
    }

    private Call() {
    }

    /** The answer as a text; an exception is told by its name behind throws. */
    static String answer(Object hall, String name, Object... arguments) {
        Method method = (hall instanceof PlainHall ? PLAIN_METHODS : METHODS).get(name);
        try {
            return String.valueOf(method.invoke(hall, arguments));
        } catch (InvocationTargetException e) {
            return thrown(e.getCause().getClass());
        } catch (IllegalAccessException e) {
            throw new IllegalStateException(e);
        }
    }

    static String thrown(Class<?> exception) {
        return "throws." + exception.getSimpleName();
    }

    /** The call as one would write it. */
    static String told(String name, Object... arguments) {
        StringBuilder out = new StringBuilder(name).append('(');
        for (int i = 0; i < arguments.length; i++) {
            out.append(i == 0 ? "" : ", ").append(toldArgument(arguments[i]));
        }
        return out.append(')').toString();
    }

    private static String toldArgument(Object argument) {
        if (argument instanceof Character sign) {
            return sign > ' ' && sign < 127 ? "'" + sign + "'" : "(char) " + (int) sign;
        }
        return String.valueOf(argument);
    }

    static Class<?>[] listedExceptions(String name) {
        return METHODS.get(name).getExceptionTypes();
    }

    static Set<String> throwingMethods() {
        Set<String> out = new TreeSet<>();
        METHODS.forEach((name, method) -> {
            if (method.getExceptionTypes().length > 0) {
                out.add(name);
            }
        });
        return out;
    }

    static int argumentCount(String name) {
        return METHODS.get(name).getParameterCount();
    }
}
