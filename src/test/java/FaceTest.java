import java.lang.reflect.Constructor;
import java.lang.reflect.Field;
import java.lang.reflect.Method;
import java.lang.reflect.Modifier;
import java.util.ArrayList;
import java.util.Arrays;
import java.util.HashSet;
import java.util.List;
import java.util.Set;
import java.util.TreeSet;

/** The class has the face that the document gives it, and no more of one. */
public final class FaceTest {
    private static final String I = "IndexOutOfBoundsException";
    private static final String A = "IllegalArgumentException";
    private static final String S = "IllegalStateException";
    private static final String N = "NoSuchElementException";

    public static void main(String[] args) {
        Script script = new Script();
        constants(script);
        script.due("the class", Modifier.toString(MapRevisions.class.getModifiers()), "public final");
        script.due("the methods", methods(), expected());
        script.due("the fields", fields(), new TreeSet<>(Set.of("POINT", "WAY", "RELATION", "GONE", "OLD",
                "UNLIKE", "RING", "USED")));
        Constructor<?>[] constructors = MapRevisions.class.getDeclaredConstructors();
        script.due("the constructors", Arrays.toString(constructors), "[public MapRevisions()]");
        hiddenParts(script);
        script.end("FaceTest");
    }

    private static void constants(Script script) {
        script.due("POINT", MapRevisions.POINT, 0);
        script.due("WAY", MapRevisions.WAY, 1);
        script.due("RELATION", MapRevisions.RELATION, 2);
        script.due("GONE", MapRevisions.GONE, -1);
        script.due("OLD", MapRevisions.OLD, -2);
        script.due("UNLIKE", MapRevisions.UNLIKE, -3);
        script.due("RING", MapRevisions.RING, -4);
        script.due("USED", MapRevisions.USED, -5);
    }

    /** What is not private: result, name, number of arguments, exceptions in their order. */
    private static Set<String> methods() {
        Set<String> found = new TreeSet<>();
        for (Method method : MapRevisions.class.getDeclaredMethods()) {
            if (!Modifier.isPrivate(method.getModifiers())) {
                List<String> thrown = new ArrayList<>();
                for (Class<?> type : method.getExceptionTypes()) {
                    thrown.add(type.getSimpleName());
                }
                found.add(row(method.getReturnType().getSimpleName(), method.getName(),
                        method.getParameterCount(), thrown));
            }
        }
        return found;
    }

    private static Set<String> fields() {
        Set<String> found = new TreeSet<>();
        for (Field field : MapRevisions.class.getDeclaredFields()) {
            if (!Modifier.isPrivate(field.getModifiers())) {
                found.add(field.getName());
            }
        }
        return found;
    }

    private static void hiddenParts(Script script) {
        Set<String> face = new HashSet<>();
        for (Method method : MapRevisions.class.getMethods()) {
            face.add(method.getName());
        }
        for (Method method : MapRevisions.class.getDeclaredMethods()) {
            if (Modifier.isPrivate(method.getModifiers())) {
                script.due("the private name " + method.getName(), face.contains(method.getName()), false);
            }
        }
        for (Class<?> inside : MapRevisions.class.getDeclaredClasses()) {
            int kept = inside.getModifiers() & (Modifier.PUBLIC | Modifier.PROTECTED | Modifier.STATIC);
            script.due("the class inside " + inside.getSimpleName(), kept, Modifier.STATIC);
        }
    }

    private static Set<String> expected() {
        return new TreeSet<>(Set.of(
                row("int", "open", 0, List.of(S)), row("int", "close", 1, List.of(I, S)),
                row("int", "refer", 1, List.of(I, S)), row("int", "wipe", 0, List.of()),
                row("int", "point", 3, List.of(I, A, S)), row("int", "make", 2, List.of(I, A, S)),
                row("int", "move", 5, List.of(I, A, S)), row("int", "change", 3, List.of(I, A, S)),
                row("int", "delete", 3, List.of(I, S)), row("int", "undo", 2, List.of(I, S)),
                row("int", "things", 0, List.of()), row("int", "latest", 1, List.of(I)),
                row("boolean", "isThere", 1, List.of(I)), row("int", "whereIs", 1, List.of(I, N)),
                row("int", "members", 1, List.of(I)), row("int", "usedBy", 1, List.of(I)),
                row("int", "hide", 2, List.of(I, S)), row("int", "setOf", 2, List.of(I, N)),
                row("int", "versionAt", 2, List.of(I, A)), row("int", "inBox", 5, List.of(A)),
                row("int", "pass", 1, List.of(A, S)), row("int", "take", 1, List.of(A)),
                row("int", "inCopy", 1, List.of(I)), row("boolean", "isTrue", 0, List.of())));
    }

    private static String row(String result, String name, int arguments, List<String> thrown) {
        return result + " " + name + "/" + arguments + " " + thrown;
    }
}
