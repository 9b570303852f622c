import java.lang.reflect.InvocationTargetException;
import java.lang.reflect.Method;
import java.util.Arrays;
import java.util.HashMap;
import java.util.Map;
import java.util.StringJoiner;

/** One call of the face, so that it can be told, and made again on another object. */
record Call(String name, int... numbers) {
    /** No call of the face answers this. */
    static final int THREW = Integer.MIN_VALUE;
    private static final Map<String, Method> METHODS = new HashMap<>();

    /** The answer of an object that has such a method; a boolean counts 1 or 0. */
    int on(Object object) {
        Object[] arguments = Arrays.stream(numbers).boxed().toArray();
        try {
            Object answer = method(object.getClass()).invoke(object, arguments);
            if (answer instanceof Boolean yes) {
                return yes ? 1 : 0;
            }
            return (Integer) answer;
        } catch (InvocationTargetException e) {
            Due.wrong(this + " threw " + e.getCause());
            return THREW;
        } catch (ReflectiveOperationException e) {
            throw new IllegalStateException(this + " can't be called", e);
        }
    }

    private Method method(Class<?> type) throws NoSuchMethodException {
        String key = type.getName() + '.' + name;
        Method method = METHODS.get(key);
        if (method == null) {
            Class<?>[] parameters = new Class<?>[numbers.length];
            Arrays.fill(parameters, int.class);
            method = type.getDeclaredMethod(name, parameters);
            METHODS.put(key, method);
        }
        return method;
    }

    @Override
    public String toString() {
        StringJoiner text = new StringJoiner(", ", name + "(", ")");
        for (int number : numbers) {
            text.add(Integer.toString(number));
        }
        return text.toString();
    }
}
