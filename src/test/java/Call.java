import java.lang.reflect.InvocationTargetException;
import java.lang.reflect.Method;
import java.lang.reflect.Modifier;
import java.util.ArrayList;
import java.util.Arrays;
import java.util.HashMap;
import java.util.List;
import java.util.Map;

/** A call by its name and arguments, which can be made of the program as well as of the model. */
final class Call {
    /** The methods by class and name: to look each one up anew takes longer than to call it. */
    private static final Map<Class<?>, Map<String, Method>> METHODS = new HashMap<>();

    private final String name;
    private final int[] arguments;

    Call(String name, int... arguments) {
        this.name = name;
        this.arguments = arguments;
    }

    /** Calls written one a line, each as its name and its arguments, a boolean as 0 or 1. */
    static List<Call> script(String lines) {
        List<Call> calls = new ArrayList<>();
        for (String line : lines.strip().split("\\s*\n\\s*")) {
            String[] words = line.split(" ");
            int[] arguments = new int[words.length - 1];
            for (int k = 0; k < arguments.length; k++) {
                arguments[k] = Integer.parseInt(words[k + 1]);
            }
            calls.add(new Call(words[0], arguments));
        }
        return calls;
    }

    /** The answer, or the name of the class of what is thrown. */
    Object on(Object configurator) {
        Method method = methodOf(configurator.getClass());
        Object[] values = new Object[arguments.length];
        for (int k = 0; k < arguments.length; k++) {
            boolean isSwitch = method.getParameterTypes()[k] == boolean.class;
            values[k] = isSwitch ? (Object) (arguments[k] != 0) : (Object) arguments[k];
        }
        try {
            return method.invoke(configurator, values);
        } catch (InvocationTargetException e) {
            return e.getCause().getClass().getName();
        } catch (IllegalAccessException e) {
            throw new AssertionError(e);
        }
    }

    static boolean isRefusal(Object answer) {
        return answer instanceof String;
    }

    private Method methodOf(Class<?> kind) {
        Method method = METHODS.computeIfAbsent(kind, Call::methodsOf).get(name);
        if (method == null) {
            throw new AssertionError("no such call: " + name);
        }
        return method;
    }

    private static Map<String, Method> methodsOf(Class<?> kind) {
        Map<String, Method> methods = new HashMap<>();
        for (Method method : kind.getDeclaredMethods()) {
            if (!Modifier.isPrivate(method.getModifiers())) {
                methods.put(method.getName(), method);
            }
        }
        return methods;
    }

    @Override
    public String toString() {
        String list = Arrays.toString(arguments);
        return name + "(" + list.substring(1, list.length() - 1) + ")";
    }
}
