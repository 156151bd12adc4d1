import java.lang.reflect.Constructor;
import java.lang.reflect.Field;
import java.lang.reflect.Method;
import java.lang.reflect.Modifier;
import java.util.Set;
import java.util.TreeSet;

/** The class shows what the document's face shows, and nothing else. */
public final class FaceTest {
    public static void main(String[] args) {
        Check.due("NONE", MicroMill.NONE, -1);
        Check.due("public final", MicroMill.class.getModifiers() == (Modifier.PUBLIC | Modifier.FINAL), true);
        Set<String> due = new TreeSet<>(Set.of(
                "public static final int MicroMill.NONE",
                "public MicroMill()",
                "public boolean MicroMill.poke(int,int)",
                "public int MicroMill.peek(int)",
                "public boolean MicroMill.set(int,int)",
                "public int MicroMill.register(int)",
                "public int MicroMill.flags()",
                "public int MicroMill.step()",
                "public int MicroMill.run(int)",
                "public long MicroMill.cycles()",
                "public int MicroMill.stopped()",
                "public boolean MicroMill.go()"));
        Set<String> shown = shown();
        for (String member : due) {
            Check.due("face has " + member, shown.contains(member), true);
        }
        for (String member : shown) {
            Check.due("document has " + member, due.contains(member), true);
        }
        Check.end();
    }

    private static Set<String> shown() {
        Set<String> shown = new TreeSet<>();
        for (Field field : MicroMill.class.getDeclaredFields()) {
            if (!Modifier.isPrivate(field.getModifiers())) {
                shown.add(field.toString());
            }
        }
        for (Method method : MicroMill.class.getDeclaredMethods()) {
            if (!Modifier.isPrivate(method.getModifiers())) {
                shown.add(method.toString());
            }
        }
        for (Constructor<?> constructor : MicroMill.class.getDeclaredConstructors()) {
            shown.add(constructor.toString());
        }
        return shown;
    }
}
