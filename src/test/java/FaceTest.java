import java.lang.reflect.Constructor;
import java.lang.reflect.Field;
import java.lang.reflect.Method;
import java.lang.reflect.Modifier;
import java.util.Arrays;
import java.util.Set;
import java.util.TreeSet;

/** The face is the document's and no more; rules 1, 5 and 11 of LANGUAGE.md, as far as they can be seen. */
public final class FaceTest {
    private static final Set<String> FACE = new TreeSet<>(Arrays.asList(
            "void clear[]", "boolean write[long, int]", "boolean again[int, int]", "boolean history[int]",
            "boolean rule[int, int, int, int]", "boolean bounds[int, int, int, int]", "int at[int, int, int]",
            "int count[int]", "int go[]", "int stretch[int, int]", "int about[int]", "int unlike[]", "int size[]"));

    private static final Checks CHECKS = new Checks();

    public static void main(String[] args) {
        Class<?> face = MatchSeeker.class;
        CHECKS.due("public and final", face.getModifiers(), Modifier.PUBLIC | Modifier.FINAL);
        constructors(face);
        Set<String> names = methods(face);
        fields(face);
        for (Class<?> inside : face.getDeclaredClasses()) {
            inside(inside, names);
        }
        CHECKS.due("at most twelve classes", face.getDeclaredClasses().length < 12, true);
        CHECKS.finish("FaceTest");
    }

    private static void constructors(Class<?> face) {
        Constructor<?>[] all = face.getDeclaredConstructors();
        CHECKS.due("one constructor", all.length, 1);
        CHECKS.due("the constructor's parameters", all[0].getParameterCount(), 0);
        CHECKS.due("the constructor is public", Modifier.isPublic(all[0].getModifiers()), true);
    }

    /** Answers the names of the public methods. */
    private static Set<String> methods(Class<?> face) {
        Set<String> seen = new TreeSet<>();
        Set<String> names = new TreeSet<>();
        for (Method m : face.getDeclaredMethods()) {
            if (Modifier.isPublic(m.getModifiers())) {
                names.add(m.getName());
                seen.add(m.getReturnType() + " " + m.getName() + parameters(m));
                CHECKS.due(m + " is of an object", Modifier.isStatic(m.getModifiers()), false);
            } else {
                CHECKS.due(m + " is private", Modifier.isPrivate(m.getModifiers()), true);
            }
        }
        CHECKS.due("the methods " + seen + " are those of the document", seen.equals(FACE), true);
        for (Method m : face.getDeclaredMethods()) {
            boolean shared = !Modifier.isPublic(m.getModifiers()) && names.contains(m.getName());
            CHECKS.due(m + " bears a public one's name", shared, false);
        }
        return names;
    }

    private static String parameters(Method m) {
        return Arrays.toString(Arrays.stream(m.getParameterTypes()).map(Class::getName).toArray());
    }

    private static void fields(Class<?> type) {
        for (Field f : type.getDeclaredFields()) {
            CHECKS.due(f + " is private", Modifier.isPrivate(f.getModifiers()), true);
            boolean mayChange = Modifier.isStatic(f.getModifiers()) && !Modifier.isFinal(f.getModifiers());
            CHECKS.due(f + " is static and may change", mayChange, false);
        }
    }

    private static void inside(Class<?> inside, Set<String> faceNames) {
        int modifiers = inside.getModifiers();
        CHECKS.due(inside + " is static", Modifier.isStatic(modifiers), true);
        CHECKS.due(inside + " is seen", Modifier.isPublic(modifiers) || Modifier.isProtected(modifiers), false);
        CHECKS.due(inside + " has at most twenty fields", inside.getDeclaredFields().length <= 20, true);
        fields(inside);
        for (Method m : inside.getDeclaredMethods()) {
            CHECKS.due(m + " bears a public one's name", faceNames.contains(m.getName()), false);
            CHECKS.due(m + " has at most seven parameters", m.getParameterCount() <= 7, true);
        }
    }
}
