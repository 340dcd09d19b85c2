import java.lang.reflect.InvocationTargetException;
import java.lang.reflect.Method;
import java.util.Arrays;

/** One call with its arguments, to be made on a TagReader or on a PlainReader. */
record Call(String name, Object... arguments) {
    long on(Object reader) {
        for (Method method : reader.getClass().getDeclaredMethods()) {
            if (method.getName().equals(name)) {
                return answer(method, reader);
            }
        }
        throw new IllegalArgumentException("no call " + name);
    }

    private long answer(Method method, Object reader) {
        try {
            return ((Number) method.invoke(reader, arguments)).longValue();
        } catch (InvocationTargetException | IllegalAccessException failure) {
            throw new IllegalStateException(this + " on " + reader.getClass().getName(), failure);
        }
    }

    @Override
    public String toString() {
        String list = Arrays.toString(arguments);
        return name + "(" + list.substring(1, list.length() - 1) + ")";
    }
}
