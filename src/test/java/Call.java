import java.lang.reflect.InvocationTargetException;
import java.lang.reflect.Method;
import java.lang.reflect.Modifier;
import java.util.Arrays;
import java.util.HashMap;
import java.util.Map;

/** One call of the face by its name and its numbers (a boolean is 1 or 0), so that it can be told and made again. */
final class Call {
    private static final Map<String, Method> FOUND = new HashMap<>();

    private final String name;
    private final int[] numbers;

    private Call(String name, int[] numbers) {
        this.name = name;
        this.numbers = numbers;
    }

    static Call of(String name, int... numbers) {
        return new Call(name, numbers.clone());
    }

    String name() {
        return name;
    }

    int number(int place) {
        return numbers[place];
    }

    /** What it answers there, or the name of what it throws. */
    String on(Object face) {
        Method method = FOUND.computeIfAbsent(face.getClass().getName() + "." + name, key -> find(face, name));
        try {
            return String.valueOf(method.invoke(face, values(method.getParameterTypes())));
        } catch (InvocationTargetException e) {
            return e.getCause().getClass().getSimpleName();
        } catch (IllegalAccessException e) {
            throw new IllegalStateException("no access to " + name);
        }
    }

    @Override
    public String toString() {
        String list = Arrays.toString(numbers);
        return name + "(" + list.substring(1, list.length() - 1) + ")";
    }

    private Object[] values(Class<?>[] types) {
        Object[] values = new Object[types.length];
        for (int i = 0; i < types.length; i++) {
            values[i] = types[i] == boolean.class ? (Object) (numbers[i] == 1) : (Object) numbers[i];
        }
        return values;
    }

    private static Method find(Object face, String name) {
        for (Method method : face.getClass().getDeclaredMethods()) {
            if (method.getName().equals(name) && Modifier.isPublic(method.getModifiers())) {
                return method;
            }
        }
        throw new IllegalStateException("there is no " + name);
    }
}
