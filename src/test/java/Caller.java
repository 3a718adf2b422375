import java.lang.reflect.InvocationTargetException;
import java.lang.reflect.Method;
import java.util.ArrayList;
import java.util.List;

/** One object under test: makes calls that are written as texts, and keeps what they answered. */
final class Caller {
    // what an object answers to later calls is free, so no test may ask it
    private static final int CALLS_OF_AN_OBJECT = 512;

    private final Commutator x = new Commutator();
    private final List<String> told = new ArrayList<>();
    private int calls;

    /** Answers a number, "done" for a call that answers nothing, or the exception behind "throws.". */
    String call(String name, String... arguments) {
        calls++;
        if (calls > CALLS_OF_AN_OBJECT) {
            throw new IllegalStateException("more calls than an object is used for");
        }
        Method method = methodOf(name);
        Object[] values = new Object[arguments.length];
        for (int i = 0; i < arguments.length; i++) {
            values[i] = argument(method.getParameterTypes()[i], arguments[i]);
        }
        String answer = answerOf(method, values);
        told.add(name + "(" + String.join(", ", arguments) + ") answers " + answer);
        return answer;
    }

    String call(String name, int argument) {
        return call(name, "" + argument);
    }

    int number(String name) {
        return Integer.parseInt(call(name));
    }

    /** The bits on the line from this one on. */
    String line(int from, int count) {
        StringBuilder text = new StringBuilder();
        for (int i = 0; i < count; i++) {
            text.append(call("bit", from + i));
        }
        return text.toString();
    }

    /** Turns bits over until these stand on the line from this one on. */
    String write(int from, String bits) {
        for (int i = 0; i < bits.length(); i++) {
            if (!call("bit", from + i).equals("" + bits.charAt(i))) {
                call("flip", from + i);
            }
        }
        return "done";
    }

    List<String> told() {
        return told;
    }

    private String answerOf(Method method, Object[] values) {
        try {
            Object answer = method.invoke(x, values);
            return answer == null ? "done" : answer.toString();
        } catch (InvocationTargetException e) {
            return "throws." + e.getCause().getClass().getSimpleName();
        } catch (IllegalAccessException e) {
            throw new IllegalStateException(e);
        }
    }

    private static Method methodOf(String name) {
        for (Method method : Commutator.class.getDeclaredMethods()) {
            if (method.getName().equals(name)) {
                return method;
            }
        }
        throw new IllegalStateException("no method " + name);
    }

    private static Object argument(Class<?> type, String text) {
        if (type == boolean.class) {
            return Boolean.valueOf(text);
        }
        switch (text) {
            case "MIN":
                return Integer.MIN_VALUE;
            case "MAX":
                return Integer.MAX_VALUE;
            default:
                return Integer.valueOf(text);
        }
    }
}
