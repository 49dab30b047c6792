import java.lang.reflect.Constructor;
import java.lang.reflect.Field;
import java.lang.reflect.Method;
import java.lang.reflect.Modifier;
import java.util.ArrayList;
import java.util.List;
import java.util.Set;
import java.util.TreeSet;

/** The class shows the document's face and nothing else. */
public final class FaceTest {
    private static final Set<String> FACE = Set.of(
        "final int REFUSED", "final int FULL", "final int DONE", "final int NONE",
        "new()", "define(int,int,int,int,int)", "ceiling(int,int)", "section(int,int,int,int)", "start()", "event(int)",
        "tick(int)", "ran()", "tell(int,int)", "holder(int)", "blocking(int)", "bound(int)", "timeline(int)", "count(int)");

    private static String signature(String name, Class<?>[] parameters) {
        List<String> types = new ArrayList<>();
        for (Class<?> type : parameters) {
            types.add(type.getName());
        }
        return name + "(" + String.join(",", types) + ")";
    }

    private static Set<String> visibleMembers(Class<?> type) {
        Set<String> seen = new TreeSet<>();
        for (Field f : type.getDeclaredFields()) {
            if (!Modifier.isPrivate(f.getModifiers())) {
                seen.add((Modifier.isPublic(f.getModifiers()) && Modifier.isStatic(f.getModifiers())
                    && Modifier.isFinal(f.getModifiers()) ? "final " : "open ") + f.getType() + " " + f.getName());
            }
        }
        for (Constructor<?> c : type.getDeclaredConstructors()) {
            if (!Modifier.isPrivate(c.getModifiers())) {
                seen.add((Modifier.isPublic(c.getModifiers()) ? "" : "hidden ") + signature("new", c.getParameterTypes()));
            }
        }
        for (Method m : type.getDeclaredMethods()) {
            if (!Modifier.isPrivate(m.getModifiers())) {
                boolean asDue = m.getModifiers() == Modifier.PUBLIC && m.getReturnType() == int.class;
                seen.add((asDue ? "" : m + " as ") + signature(m.getName(), m.getParameterTypes()));
            }
        }
        return seen;
    }

    private static int privateNamesakes(Class<?> type) {
        int found = 0;
        for (Method m : type.getDeclaredMethods()) {
            for (String member : FACE) {
                if (Modifier.isPrivate(m.getModifiers()) && member.startsWith(m.getName() + "(")) {
                    System.out.println("a private method bears the name of a public one: " + m);
                    found++;
                }
            }
        }
        return found;
    }

    public static void main(String[] args) {
        Class<?> type = CeilingScheduler.class;
        int wrong = privateNamesakes(type);
        if (!type.getPackageName().isEmpty() || type.getModifiers() != (Modifier.PUBLIC | Modifier.FINAL)) {
            System.out.println("the class is not public and final, without a package");
            wrong++;
        }
        Set<String> seen = visibleMembers(type);
        if (!seen.equals(FACE)) {
            System.out.println("visible is " + seen + ", due is " + new TreeSet<>(FACE));
            wrong++;
        }
        for (Class<?> inside : type.getDeclaredClasses()) {
            wrong += privateNamesakes(inside);
            if (!Modifier.isStatic(inside.getModifiers()) || Modifier.isPublic(inside.getModifiers())) {
                System.out.println("not static, or public: " + inside);
                wrong++;
            }
        }
        System.out.println(wrong == 0 ? "the face is as due" : wrong + " faults in the face");
        if (wrong != 0) {
            System.exit(1);
        }
    }
}
