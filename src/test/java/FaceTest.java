import java.lang.reflect.Constructor;
import java.lang.reflect.Field;
import java.lang.reflect.Method;
import java.lang.reflect.Modifier;
import java.util.Set;
import java.util.TreeSet;

/** The public face is the document's, and nothing else of the class can be seen from outside. */
public final class FaceTest {
    private static final Set<String> DUE = Set.of(
            "public static final int Generations.NONE",
            "public Generations(int,int)",
            "public int Generations.catalogue(int)",
            "public int Generations.job()",
            "public int Generations.relative(int,int) throws java.lang.IllegalArgumentException",
            "public int Generations.make(int,int) throws java.lang.IllegalArgumentException",
            "public int Generations.end(int,int,boolean) throws java.lang.IllegalArgumentException",
            "public int Generations.dropped(int)",
            "public int Generations.restart(int,int) throws java.lang.IllegalArgumentException",
            "public int Generations.list(int)",
            "public int Generations.reclaim(int)",
            "public int Generations.empty(boolean)",
            "public int Generations.version(int)",
            "public int Generations.state(int)",
            "public int Generations.count(int)");

    public static void main(String[] args) {
        Check check = new Check("face");
        Set<String> seen = new TreeSet<>();
        for (Field field : Generations.class.getDeclaredFields()) {
            add(seen, field.getModifiers(), field.toString());
        }
        for (Constructor<?> constructor : Generations.class.getDeclaredConstructors()) {
            add(seen, constructor.getModifiers(), constructor.toString());
        }
        for (Method method : Generations.class.getDeclaredMethods()) {
            add(seen, method.getModifiers(), method.toString());
        }
        for (String member : DUE) {
            check.due(member + " is there", 1, seen.contains(member) ? 1 : 0);
        }
        for (String member : seen) {
            check.due(member + " is of the face", 1, DUE.contains(member) ? 1 : 0);
        }
        check.due("the class is public and final", Modifier.PUBLIC | Modifier.FINAL,
                Generations.class.getModifiers());
        check.finish();
    }

    private static void add(Set<String> seen, int modifiers, String member) {
        if (!Modifier.isPrivate(modifiers)) {
            seen.add(member);
        }
    }
}
