import java.io.IOException;
import java.lang.reflect.Array;
import java.lang.reflect.Field;
import java.lang.reflect.Modifier;
import java.nio.file.Files;
import java.nio.file.Path;
import java.util.IdentityHashMap;

/** An object is small, and as great behind its calls as ahead of them: what it needs it has from the start. */
public final class RoomTest {
    private static final int MOST_OBJECTS = 400;
    private static final int MOST_FIELDS = 12_000;

    private final IdentityHashMap<Object, Boolean> seen = new IdentityHashMap<>();
    private int fields;

    public static void main(String[] args) throws IOException, IllegalAccessException {
        RoomTest fresh = of(new Undogroups());
        Due.is("at most 400 objects and arrays", fresh.seen.size() <= MOST_OBJECTS, true);
        Due.is("at most 12000 fields and elements", fresh.fields <= MOST_FIELDS, true);
        for (Story story : new Story[] {Stories.SMALL, Stories.FULL, Stories.TANGLED}) {
            Undogroups used = story.tell();
            for (int i = 0; i < story.callsLeft(); i++) {
                story.questions().get(i * 7 % story.questions().size()).on(used);
            }
            RoomTest room = of(used);
            Due.same("objects behind calls", room.seen.size(), fresh.seen.size());
            Due.same("fields behind calls", room.fields, fresh.fields);
        }
        madeByCalls(Files.readString(Path.of("src/main/java/Undogroups.java")));
        Due.end();
    }

    private static RoomTest of(Undogroups house) throws IllegalAccessException {
        RoomTest room = new RoomTest();
        room.walk(house);
        return room;
    }

    private void walk(Object at) throws IllegalAccessException {
        if (at == null || seen.put(at, true) != null) {
            return;
        }
        if (at.getClass().isArray()) {
            int length = Array.getLength(at);
            fields += length;
            for (int i = 0; i < length && !at.getClass().getComponentType().isPrimitive(); i++) {
                walk(Array.get(at, i));
            }
            return;
        }
        for (Field field : at.getClass().getDeclaredFields()) {
            if (!Modifier.isStatic(field.getModifiers())) {
                field.setAccessible(true);
                fields++;
                if (!field.getType().isPrimitive()) {
                    walk(field.get(at));
                }
            }
        }
    }

    /** Fields are filled as they are declared or in the constructor; a call makes an exception or row's text alone. */
    private static void madeByCalls(String text) {
        int start = text.indexOf("public Undogroups() {");
        String calls = text.substring(0, start) + text.substring(text.indexOf("}", start));
        for (String line : calls.split("\n")) {
            if (line.matches(".*\\bnew [\\w.]+ ?[\\[(<].*")) {
                Due.is("made as it should be: " + line.trim(), line.matches(" +(private )?final .* = new .*;")
                        || line.matches(" +throw new \\w+\\(\"[a-z ]+\"\\);")
                        || line.matches(" +StringBuilder text = new StringBuilder\\(\\);"), true);
            }
        }
    }
}
