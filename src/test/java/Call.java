import java.lang.reflect.InvocationTargetException;
import java.lang.reflect.Method;
import java.lang.reflect.Modifier;
import java.util.HashMap;
import java.util.List;
import java.util.Map;

/** One call of the face, told by a text as "row(3, 0, 0, 0, 60)". */
final class Call {
    private static final Map<Class<?>, Map<String, Method>> METHODS =
            Map.of(Rankhall.class, methodsOf(Rankhall.class), PlainOrgan.class, methodsOf(PlainOrgan.class));

    final String text;
    final String name;
    private final Object[] values;

    Call(String text) {
        int open = text.indexOf('(');
        this.text = text;
        name = text.substring(0, open);
        Method method = METHODS.get(Rankhall.class).get(name);
        if (method == null) {
            throw new IllegalStateException("there is no call " + text);
        }
        String inside = text.substring(open + 1, text.lastIndexOf(')')).trim();
        String[] parts = inside.isEmpty() ? new String[0] : inside.split("\\s*,\\s*");
        values = new Object[parts.length];
        for (int i = 0; i < parts.length; i++) {
            values[i] = value(parts[i], method.getParameterTypes()[i]);
        }
    }

    static Map<String, Method> methodsOf(Class<?> type) {
        Map<String, Method> methods = new HashMap<>();
        for (Method method : type.getDeclaredMethods()) {
            if (Modifier.isPublic(method.getModifiers())) {
                methods.put(method.getName(), method);
            }
        }
        return methods;
    }

    private static Object value(String text, Class<?> type) {
        if (type == boolean.class) {
            return Boolean.valueOf(text);
        }
        return type == char.class ? (Object) text.charAt(0) : (Object) Integer.valueOf(text);
    }

    /** A new organ on which some calls have been made already. */
    static Rankhall organBehind(List<Call> calls) {
        Rankhall organ = new Rankhall();
        calls.forEach(call -> call.answerOf(organ));
        return organ;
    }

    static PlainOrgan plainOrganBehind(List<Call> calls) {
        PlainOrgan organ = new PlainOrgan();
        calls.forEach(call -> call.answerOf(organ));
        return organ;
    }

    /** The answer of an organ, the program's or the plain one: "= 3", or "! IndexOutOfBoundsException". */
    String answerOf(Object organ) {
        return answer(METHODS.get(organ.getClass()).get(name), organ, values);
    }

    static String answer(Method method, Object organ, Object[] values) {
        try {
            return "= " + method.invoke(organ, values);
        } catch (InvocationTargetException e) {
            return told(e.getCause(), organ);
        } catch (IllegalAccessException e) {
            throw new IllegalStateException(e);
        }
    }

    /** The program's exceptions must come from a throw of its own, not from the machine or its library. */
    private static String told(Throwable thrown, Object organ) {
        StackTraceElement[] trace = thrown.getStackTrace();
        boolean isOwn = trace.length > 0 && trace[0].getClassName().startsWith("Rankhall");
        boolean isMachines = organ instanceof Rankhall && (!isOwn || "/ by zero".equals(thrown.getMessage()));
        return "! " + thrown.getClass().getSimpleName() + (isMachines ? " by the machine" : "");
    }
}
