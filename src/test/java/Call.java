import java.lang.reflect.InvocationTargetException;
import java.lang.reflect.Method;
import java.util.Arrays;
import java.util.HashMap;
import java.util.List;
import java.util.Map;

/** A call of the face, which can be made to the class and to PlainModel alike. */
record Call(String name, Object... arguments) {
    private static final Map<String, Method> METHODS = new HashMap<>();

    static StarPress realAfter(List<Call> calls) {
        StarPress real = new StarPress();
        calls.forEach(call -> call.answer(real));
        return real;
    }

    static PlainModel modelAfter(List<Call> calls) {
        PlainModel model = new PlainModel();
        calls.forEach(call -> call.answer(model));
        return model;
    }

    /** Returns what the call answers, or the class of what it throws. */
    Object answer(Object asked) {
        try {
            return method(asked.getClass()).invoke(asked, arguments);
        } catch (InvocationTargetException e) {
            return e.getCause().getClass();
        } catch (IllegalAccessException e) {
            throw new IllegalStateException(e);
        }
    }

    /** Expects the same answer of the class and of the model. */
    boolean agrees(StarPress real, PlainModel model) {
        Object want = answer(model);
        Object got = answer(real);
        Check.same(this, got, want);
        return got.equals(want);
    }

    private Method method(Class<?> type) {
        return METHODS.computeIfAbsent(type.getName() + "." + name, key -> {
            for (Method method : type.getMethods()) {
                if (method.getName().equals(name)) {
                    return method;
                }
            }
            throw new IllegalStateException("no method " + key);
        });
    }

    @Override
    public String toString() {
        return name + Arrays.toString(arguments);
    }
}
