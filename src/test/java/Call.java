import java.lang.reflect.InvocationTargetException;
import java.lang.reflect.Method;
import java.util.HashMap;
import java.util.Map;

/** One call by its name; the same one can be made on a TypeHouse and on a PlainHouse. */
record Call(String name, long... args) {
    private static final Map<String, Method> OF_TYPE = methodsOf(TypeHouse.class);
    private static final Map<String, Method> OF_PLAIN = methodsOf(PlainHouse.class);

    private static Map<String, Method> methodsOf(Class<?> type) {
        Map<String, Method> found = new HashMap<>();
        for (Method method : type.getDeclaredMethods()) {
            if (found.put(nameOf(method), method) != null) {
                throw new IllegalStateException("two methods " + nameOf(method) + " of " + type);
            }
        }
        return found;
    }

    /** Methods of the face come under their own names, all others under names that no test can write. */
    private static String nameOf(Method method) {
        for (Class<?> type : method.getParameterTypes()) {
            if (type != int.class && type != long.class) {
                return method.toString();
            }
        }
        return method.getReturnType() == int.class ? method.getName() : method.toString();
    }

    static boolean isKnown(String name, int arguments) {
        Method method = OF_TYPE.get(name);
        return method != null && method.getParameterCount() == arguments;
    }

    int on(TypeHouse house) {
        return answer(OF_TYPE, house);
    }

    int on(PlainHouse house) {
        return answer(OF_PLAIN, house);
    }

    private int answer(Map<String, Method> methods, Object house) {
        Method method = methods.get(name);
        Class<?>[] types = method.getParameterTypes();
        Object[] values = new Object[args.length];
        for (int k = 0; k < args.length; k++) {
            if (types[k] == long.class) {
                values[k] = args[k];
            } else {
                values[k] = Math.toIntExact(args[k]);
            }
        }
        try {
            return (int) method.invoke(house, values);
        } catch (InvocationTargetException thrown) {
            throw new IllegalStateException(this + " threw", thrown.getCause());
        } catch (IllegalAccessException refused) {
            throw new IllegalStateException(refused);
        }
    }

    @Override
    public String toString() {
        StringBuilder text = new StringBuilder(name);
        for (long arg : args) {
            text.append(' ').append(arg);
        }
        return text.toString();
    }
}
