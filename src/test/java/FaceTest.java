import java.lang.reflect.Field;
import java.lang.reflect.Method;
import java.lang.reflect.Modifier;
import java.util.Set;
import java.util.TreeSet;

/** The public face is the document's, and nothing else can be seen from outside. */
public final class FaceTest {
    private static final String[] FACE = {
        "room int int", "hand int", "as int int", "child int int int int", "childIs int int",
        "roomOf int int", "month int", "slot int", "day", "in int int", "to int int",
        "over int int", "fetches int int boolean", "place int int", "ill int", "now int int",
        "lacking", "moves", "moved int", "move", "roll int int", "sleeps int boolean", "look int",
        "missed int boolean", "needed int int int", "longer int", "shifts int", "proves int",
        "waits int", "list int", "earliest int", "admit int", "places int int int", "rate int",
        "bill int int int boolean", "text int", "wrong", "sheet int int int", "put int int int",
        "copy int int int int int", "undo", "all int"
    };

    public static void main(String[] args) {
        Due due = new Due("face");
        due.is("final and public", 1, SmallRooms.class.getModifiers() == (Modifier.PUBLIC | Modifier.FINAL) ? 1 : 0);
        due.is("constructors", 1, SmallRooms.class.getDeclaredConstructors().length);
        due.is("public constructors", 1, SmallRooms.class.getConstructors().length);
        Set<String> wanted = new TreeSet<>(Set.of(FACE));
        Set<String> publicNames = new TreeSet<>();
        for (Method m : SmallRooms.class.getDeclaredMethods()) {
            if (Modifier.isPublic(m.getModifiers())) {
                publicNames.add(m.getName());
                due.is("in the face: " + told(m), 1, wanted.remove(told(m)) ? 1 : 0);
                due.is("answers int: " + told(m), 1, m.getReturnType() == int.class ? 1 : 0);
            }
        }
        due.is("left of the face: " + wanted, 0, wanted.size());
        hidden(due, publicNames);
        due.end();
    }

    private static void hidden(Due due, Set<String> publicNames) {
        for (Method m : SmallRooms.class.getDeclaredMethods()) {
            if (!Modifier.isPublic(m.getModifiers())) {
                due.is("private: " + told(m), 1, Modifier.isPrivate(m.getModifiers()) ? 1 : 0);
                due.is("a name of its own: " + told(m), 0, publicNames.contains(m.getName()) ? 1 : 0);
            }
        }
        for (Field f : SmallRooms.class.getDeclaredFields()) {
            due.is("private: " + f.getName(), 1, Modifier.isPrivate(f.getModifiers()) ? 1 : 0);
        }
        for (Class<?> c : SmallRooms.class.getDeclaredClasses()) {
            due.is("static: " + c.getName(), 1, Modifier.isStatic(c.getModifiers()) ? 1 : 0);
            for (Method m : c.getDeclaredMethods()) {
                due.is("a name of its own: " + told(m), 0, publicNames.contains(m.getName()) ? 1 : 0);
            }
        }
    }

    private static String told(Method m) {
        StringBuilder text = new StringBuilder(m.getName());
        for (Class<?> type : m.getParameterTypes()) {
            text.append(' ').append(type.getName());
        }
        return text.toString();
    }
}
