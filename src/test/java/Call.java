import java.lang.reflect.InvocationTargetException;
import java.lang.reflect.Method;
import java.util.Arrays;
import java.util.stream.Collectors;

/** One call by name, so that the same call can be made on several objects and told when it goes wrong. */
record Call(String name, long... arguments) {

    /** The answer as a text: a number (a boolean counts 1 or 0), "done", or the exception's full name. */
    String on(Object target) {
        Method method = find(target.getClass());
        method.setAccessible(true);
        try {
            Object answer = method.invoke(target, fit(method.getParameterTypes()));
            if (answer instanceof Boolean yes) {
                return yes ? "1" : "0";
            }
            return answer == null ? "done" : answer.toString();
        } catch (InvocationTargetException e) {
            return "throws." + e.getCause().getClass().getName();
        } catch (IllegalAccessException e) {
            throw new AssertionError(e);
        }
    }

    String text() {
        return name + Arrays.stream(arguments).mapToObj(Long::toString).collect(Collectors.joining(", ", "(", ")"));
    }

    private Method find(Class<?> owner) {
        for (Method method : owner.getDeclaredMethods()) {
            if (method.getName().equals(name)) {
                return method;
            }
        }
        throw new AssertionError("no method " + name);
    }

    private Object[] fit(Class<?>[] types) {
        Object[] fitted = new Object[types.length];
        for (int i = 0; i < types.length; i++) {
            fitted[i] = types[i] == int.class ? (Object) Math.toIntExact(arguments[i]) : (Object) arguments[i];
        }
        return fitted;
    }
}
