import java.io.IOException;
import java.lang.reflect.Field;
import java.lang.reflect.Method;
import java.lang.reflect.Modifier;
import java.util.List;
import java.util.Set;
import java.util.TreeSet;

/** The face of the class is that of the document, and there is nothing beside it. */
public final class FaceTest {
    public static void main(String[] args) throws IOException {
        Class<?> face = Undogroups.class;
        Due.is("public", Modifier.isPublic(face.getModifiers()), true);
        Due.is("final", Modifier.isFinal(face.getModifiers()), true);
        Due.same("constructors", face.getDeclaredConstructors().length, 1);
        Due.text("constructor", face.getDeclaredConstructors()[0].toString(), "public Undogroups()");
        methods(face, Document.read().methods());
        for (Field field : face.getDeclaredFields()) {
            Due.is("private " + field, Modifier.isPrivate(field.getModifiers()), true);
            Due.is("final if static " + field, !Modifier.isStatic(field.getModifiers())
                    || Modifier.isFinal(field.getModifiers()), true);
        }
        for (Class<?> inside : face.getDeclaredClasses()) {
            Due.is("static " + inside, Modifier.isStatic(inside.getModifiers()), true);
            Due.is("not public " + inside, Modifier.isPublic(inside.getModifiers()), false);
        }
        Due.end();
    }

    private static void methods(Class<?> face, List<String> lines) {
        Set<String> due = new TreeSet<>();
        Set<String> got = new TreeSet<>();
        Set<String> names = new TreeSet<>();
        for (String line : lines) {
            due.add(line);
            names.add(line.substring(line.indexOf(' ') + 1, line.indexOf('(')));
        }
        for (Method method : face.getDeclaredMethods()) {
            if (Modifier.isPrivate(method.getModifiers())) {
                Due.is("no public one's name " + method, names.contains(method.getName()), false);
            } else {
                Due.is("public " + method, Modifier.isPublic(method.getModifiers()), true);
                got.add(line(method));
            }
        }
        Due.same("methods in the document", lines.size(), 25);
        Due.text("methods", got.toString(), due.toString());
    }

    private static String line(Method method) {
        StringBuilder text = new StringBuilder();
        text.append(method.getReturnType().getSimpleName()).append(' ').append(method.getName()).append('(');
        for (int i = 0; i < method.getParameterCount(); i++) {
            text.append(i > 0 ? "," : "").append(method.getParameterTypes()[i].getSimpleName());
        }
        text.append(')');
        for (Class<?> kind : method.getExceptionTypes()) {
            text.append(' ').append(kind.getSimpleName());
        }
        return text.toString();
    }
}
