import java.lang.reflect.InvocationTargetException;
import java.lang.reflect.Method;
import java.util.Arrays;
import java.util.Map;
import java.util.concurrent.ConcurrentHashMap;

/** A call by its name, which can be made on one dairy after the other, and on a PlainDairy. */
record Call(String name, Object... arguments) {
    private static final Map<String, Method> METHODS = new ConcurrentHashMap<>();

    /** The answer as a text, which is throws.IllegalStateException or another one's name if the call throws. */
    String on(Object dairy) {
        Class<?> type = dairy.getClass();
        Method method = METHODS.computeIfAbsent(type.getName() + " " + name, each -> named(type));
        try {
            return String.valueOf(method.invoke(dairy, arguments));
        } catch (InvocationTargetException e) {
            return "throws." + e.getCause().getClass().getSimpleName();
        } catch (IllegalAccessException e) {
            throw new IllegalStateException(e);
        }
    }

    private Method named(Class<?> type) {
        return Arrays.stream(type.getMethods()).filter(method -> method.getName().equals(name)).findFirst()
                .orElseThrow();
    }

    @Override
    public String toString() {
        return name + Arrays.toString(arguments);
    }
}
