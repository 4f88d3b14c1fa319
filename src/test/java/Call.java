import java.lang.reflect.InvocationTargetException;
import java.lang.reflect.Method;
import java.util.HashMap;
import java.util.Map;

/** A call of the face in writing, such as "edge(0, 1, 3, 5)", to be made on an Undogroups or on a Model. */
final class Call {
    static final String INDEX = "throws IndexOutOfBoundsException";
    static final String ARGUMENT = "throws IllegalArgumentException";
    static final String STATE = "throws IllegalStateException";
    private static final Map<String, Method> FACE = methods(Undogroups.class);
    private static final Map<String, Method> WORDS = methods(Model.class);

    final String text;
    private final String name;
    private final Object[] arguments;

    private Call(String text) {
        this.text = text;
        name = text.substring(0, text.indexOf('('));
        String inside = text.substring(text.indexOf('(') + 1, text.length() - 1);
        String[] parts = inside.isEmpty() ? new String[0] : inside.split(", ");
        arguments = new Object[parts.length];
        for (int i = 0; i < parts.length; i++) {
            boolean isTruth = parts[i].equals("true") || parts[i].equals("false");
            arguments[i] = isTruth ? (Object) Boolean.valueOf(parts[i]) : (Object) Integer.valueOf(parts[i]);
        }
    }

    static Call of(String text) {
        return new Call(text);
    }

    /** The names of the face are each there once, so a name tells the method. */
    private static Map<String, Method> methods(Class<?> kind) {
        Map<String, Method> found = new HashMap<>();
        for (Method method : kind.getDeclaredMethods()) {
            found.put(method.getName(), method);
        }
        return found;
    }

    String on(Undogroups house) {
        return answer(FACE, house);
    }

    String on(Model house) {
        return answer(WORDS, house);
    }

    private String answer(Map<String, Method> methods, Object house) {
        try {
            return String.valueOf(methods.get(name).invoke(house, arguments));
        } catch (InvocationTargetException e) {
            return "throws " + e.getCause().getClass().getSimpleName();
        } catch (IllegalAccessException e) {
            return "can't be called";
        }
    }
}
