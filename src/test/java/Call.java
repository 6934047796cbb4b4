import java.lang.reflect.InvocationTargetException;
import java.lang.reflect.Method;
import java.util.Set;

/** One call on a book, told by its text, such as "addPoint(0, 100, 5)". */
final class Call {
    private static final Set<String> CHANGING = Set.of(
            "addCurve", "addPoint", "setShift", "read", "erase", "freeze", "setRules", "measure");

    private final String text;
    private final Method method;
    private final Object[] arguments;

    Call(String text) {
        int open = text.indexOf('(');
        int close = text.lastIndexOf(')');
        if (open < 0 || close != text.length() - 1) {
            throw new IllegalArgumentException("not a call: " + text);
        }
        this.text = text;
        method = methodNamed(text.substring(0, open).trim());
        String inner = text.substring(open + 1, close).trim();
        String[] told = inner.isEmpty() ? new String[0] : inner.split(",");
        Class<?>[] types = method.getParameterTypes();
        if (told.length != types.length) {
            throw new IllegalArgumentException("not as many arguments as the face has: " + text);
        }
        arguments = new Object[told.length];
        for (int i = 0; i < told.length; i++) {
            arguments[i] = argumentOf(types[i], told[i].trim());
        }
    }

    String text() {
        return text;
    }

    /** Whether the document lets this call change the book. */
    boolean mayChange() {
        return CHANGING.contains(method.getName());
    }

    /** The answer as the issues write it: a number, or throws. and the name of an exception. */
    String answer(GaugeBook book) {
        try {
            return String.valueOf(method.invoke(book, arguments));
        } catch (InvocationTargetException e) {
            return "throws." + e.getCause().getClass().getSimpleName();
        } catch (IllegalAccessException e) {
            throw new IllegalStateException(e);
        }
    }

    private static Method methodNamed(String name) {
        for (Method method : GaugeBook.class.getMethods()) {
            if (method.getDeclaringClass() == GaugeBook.class && method.getName().equals(name)) {
                return method;
            }
        }
        throw new IllegalArgumentException("no such method: " + name);
    }

    private static Object argumentOf(Class<?> type, String told) {
        if (type == int.class) {
            return Integer.valueOf(told);
        }
        if (type == long.class) {
            return Long.valueOf(told);
        }
        if (type == boolean.class && (told.equals("true") || told.equals("false"))) {
            return Boolean.valueOf(told);
        }
        throw new IllegalArgumentException(told + " is no " + type);
    }
}
