import java.lang.reflect.Field;
import java.lang.reflect.Method;
import java.lang.reflect.Modifier;
import java.util.Set;
import java.util.TreeSet;

/** The face of the class is that of the document, and there is nothing beside it. */
public final class FaceTest {
    private static final String INDEX = "IndexOutOfBoundsException";
    private static final String ARGUMENT = "IllegalArgumentException";
    private static final String STATE = "IllegalStateException";
    private static final String[] FACE = {
        "int member() " + STATE,
        "int edge(int,int,int,int) " + INDEX + " " + ARGUMENT + " " + STATE,
        "int cut(int) " + INDEX + " " + STATE,
        "int join(int) " + INDEX + " " + STATE,
        "int back(int) " + INDEX + " " + STATE,
        "int call()",
        "int of(int,int) " + INDEX + " " + ARGUMENT,
        "int ofMember(int,int,int) " + INDEX + " " + ARGUMENT,
        "int ofEdge(int,int,int) " + INDEX + " " + ARGUMENT,
        "int told(int,int) " + INDEX + " " + ARGUMENT,
        "int apart(int,int,int) " + INDEX + " " + STATE,
        "int held(int,int,int) " + INDEX + " " + ARGUMENT,
        "long live(int) " + INDEX,
        "String row(int) " + INDEX,
        "int together(int,int,int) " + ARGUMENT,
        "long change(int,int,boolean) " + INDEX,
        "int twin(int) " + INDEX,
        "int house(int) " + ARGUMENT,
        "double mean()",
        "int wouldJoin(int,int) " + INDEX + " " + ARGUMENT,
        "int bestCut()",
        "int undo(int,int) " + INDEX + " " + ARGUMENT,
        "long mend()",
        "boolean isSound()",
        "long digest()",
    };

    public static void main(String[] args) {
        Class<?> face = Undogroups.class;
        Due.is("public", Modifier.isPublic(face.getModifiers()), true);
        Due.is("final", Modifier.isFinal(face.getModifiers()), true);
        Due.same("constructors", face.getDeclaredConstructors().length, 1);
        Due.text("constructor", face.getDeclaredConstructors()[0].toString(), "public Undogroups()");
        methods(face);
        for (Field field : face.getDeclaredFields()) {
            Due.is("private " + field, Modifier.isPrivate(field.getModifiers()), true);
            Due.is("final if static " + field, !Modifier.isStatic(field.getModifiers())
                    || Modifier.isFinal(field.getModifiers()), true);
        }
        for (Class<?> inside : face.getDeclaredClasses()) {
            Due.is("static " + inside, Modifier.isStatic(inside.getModifiers()), true);
            Due.is("not public " + inside, Modifier.isPublic(inside.getModifiers()), false);
        }
        Due.end();
    }

    private static void methods(Class<?> face) {
        Set<String> due = new TreeSet<>();
        Set<String> got = new TreeSet<>();
        Set<String> names = new TreeSet<>();
        for (String line : FACE) {
            due.add(line);
            names.add(line.substring(line.indexOf(' ') + 1, line.indexOf('(')));
        }
        for (Method method : face.getDeclaredMethods()) {
            if (Modifier.isPrivate(method.getModifiers())) {
                Due.is("no public one's name " + method, names.contains(method.getName()), false);
            } else {
                Due.is("public " + method, Modifier.isPublic(method.getModifiers()), true);
                got.add(line(method));
            }
        }
        Due.text("methods", got.toString(), due.toString());
    }

    private static String line(Method method) {
        StringBuilder text = new StringBuilder();
        text.append(method.getReturnType().getSimpleName()).append(' ').append(method.getName()).append('(');
        for (int i = 0; i < method.getParameterCount(); i++) {
            text.append(i > 0 ? "," : "").append(method.getParameterTypes()[i].getSimpleName());
        }
        text.append(')');
        for (Class<?> kind : method.getExceptionTypes()) {
            text.append(' ').append(kind.getSimpleName());
        }
        return text.toString();
    }
}
