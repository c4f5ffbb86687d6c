import java.lang.reflect.InvocationTargetException;
import java.lang.reflect.Method;
import java.util.Arrays;
import java.util.HashMap;
import java.util.Map;
import java.util.stream.Collectors;

/** Calls a method by its name and tells the answer as a text; an exception as throws.ItsName. */
final class Face {
    private static final Map<String, Method> METHODS = new HashMap<>();

    private Face() {
    }

    static String ask(Object target, String name, int... arguments) {
        try {
            Object[] boxed = Arrays.stream(arguments).boxed().toArray();
            return String.valueOf(method(target.getClass(), name, arguments.length).invoke(target, boxed));
        } catch (InvocationTargetException e) {
            return "throws." + e.getCause().getClass().getSimpleName();
        } catch (ReflectiveOperationException e) {
            throw new IllegalStateException(e);
        }
    }

    static String told(String name, int... arguments) {
        return name + Arrays.stream(arguments).mapToObj(String::valueOf)
                .collect(Collectors.joining(", ", "(", ")"));
    }

    private static Method method(Class<?> owner, String name, int count) throws NoSuchMethodException {
        String key = owner.getName() + "." + name;
        Method method = METHODS.get(key);
        if (method == null) {
            Class<?>[] types = new Class<?>[count];
            Arrays.fill(types, int.class);
            method = owner.getDeclaredMethod(name, types);
            method.setAccessible(true);
            METHODS.put(key, method);
        }
        return method;
    }
}
