import java.lang.reflect.Constructor;
import java.lang.reflect.Field;
import java.lang.reflect.Method;
import java.lang.reflect.Modifier;
import java.util.Set;
import java.util.TreeSet;

/** The class shows the document's face and nothing else. */
public final class FaceTest {
    private static final Set<String> FACE = Set.of(
            "public boolean JournalDesk.put(long,int)",
            "public int JournalDesk.write()",
            "public int JournalDesk.drop(int)",
            "public boolean JournalDesk.cut(int)",
            "public int JournalDesk.start()",
            "public int JournalDesk.record(int,int)",
            "public long JournalDesk.bytes(int,int)",
            "public int JournalDesk.count(int)");

    public static void main(String[] args) {
        Due due = new Due();
        Set<String> seen = new TreeSet<>();
        for (Method method : JournalDesk.class.getDeclaredMethods()) {
            if (!Modifier.isPrivate(method.getModifiers()) && !method.isSynthetic()) {
                seen.add(method.toString());
            }
        }
        due.is("methods " + seen, seen.equals(FACE), true);
        for (Field field : JournalDesk.class.getDeclaredFields()) {
            due.is("private " + field, Modifier.isPrivate(field.getModifiers()), true);
        }
        Constructor<?>[] made = JournalDesk.class.getDeclaredConstructors();
        due.is("constructors", made.length, 1);
        due.is("public " + made[0], made[0].toString().equals("public JournalDesk()"), true);
        int modifiers = JournalDesk.class.getModifiers();
        due.is("public final", Modifier.isPublic(modifiers) && Modifier.isFinal(modifiers), true);
        due.end();
    }
}
