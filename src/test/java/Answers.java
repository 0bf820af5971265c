import java.lang.reflect.InvocationTargetException;
import java.lang.reflect.Method;

/** Makes calls that are written as text, such as "edge 0 6 1 1", and writes their answers as text. */
final class Answers {
    private Answers() {
    }

    /** The answer as text: a number, true, false, "done" for a void call, or "throws." and the exception. */
    static String of(Object target, String call) {
        String[] words = call.trim().split("\\s+");
        Method method = methodOf(target.getClass(), words[0], words.length - 1);
        Object[] arguments = new Object[words.length - 1];
        for (int i = 0; i < arguments.length; i++) {
            boolean truth = method.getParameterTypes()[i] == boolean.class;
            arguments[i] = truth ? (Object) Boolean.valueOf(words[i + 1]) : (Object) Integer.valueOf(words[i + 1]);
        }
        try {
            Object answer = method.invoke(target, arguments);
            return answer == null ? "done" : answer.toString();
        } catch (InvocationTargetException e) {
            return "throws." + e.getCause().getClass().getSimpleName();
        } catch (IllegalAccessException e) {
            throw new AssertionError(call, e);
        }
    }

    private static Method methodOf(Class<?> type, String name, int arguments) {
        for (Method method : type.getDeclaredMethods()) {
            if (method.getName().equals(name) && method.getParameterCount() == arguments) {
                return method;
            }
        }
        throw new AssertionError("no such call: " + name + " with " + arguments + " arguments");
    }
}
