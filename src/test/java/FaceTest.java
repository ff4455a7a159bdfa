import java.lang.reflect.Constructor;
import java.lang.reflect.Field;
import java.lang.reflect.Method;
import java.lang.reflect.Modifier;
import java.util.TreeSet;

/** The public face: the constants, the constructor and the methods of the document, and no more. */
public final class FaceTest {
    private static final Check check = new Check("FaceTest");
    private static final String[] METHODS = {
        "colour 3", "paints 4", "ground 3", "eye 3", "sets 2", "fixes 2", "of 2", "look 2", "light 1", "seen 3",
        "distance 3", "apart 2", "fills 1", "swaps 0", "palette 1", "least 0", "nearest 0", "best 1", "mistaken 2",
        "count 1", "type 1", "clear 0", "does 0", "back 0", "told 1", "digest 0"};

    public static void main(String[] args) {
        check.due("NONE", HuesApart.NONE, -1);
        check.due("BAD", HuesApart.BAD, -2);
        check.due("NO", HuesApart.NO, -3);
        check.due("FULL", HuesApart.FULL, -4);
        check.due("public final", HuesApart.class.getModifiers() & (Modifier.PUBLIC | Modifier.FINAL), Modifier.PUBLIC | Modifier.FINAL);
        constructor();
        fields();
        TreeSet<String> names = methods();
        for (Class<?> inner : HuesApart.class.getDeclaredClasses()) {
            classInside(inner, names);
        }
        check.end();
    }

    /** Rule 1 of LANGUAGE.md: not seen from without, and static; no private method bears a name of the face. */
    private static void classInside(Class<?> inner, TreeSet<String> names) {
        check.due(inner + " is not public or protected", inner.getModifiers() & (Modifier.PUBLIC | Modifier.PROTECTED), 0);
        check.due(inner + " is static", Modifier.isStatic(inner.getModifiers()) ? 1 : 0, 1);
        for (Method m : inner.getDeclaredMethods()) {
            boolean wrong = Modifier.isPrivate(m.getModifiers()) && names.contains(m.getName());
            check.due(inner + ": " + m.getName() + " is no private one with a name of the face", wrong ? 1 : 0, 0);
        }
    }

    private static void constructor() {
        Constructor<?>[] all = HuesApart.class.getDeclaredConstructors();
        check.due("constructors", all.length, 1);
        check.due("its parameters", all[0].getParameterCount(), 0);
        check.due("it is public", Modifier.isPublic(all[0].getModifiers()) ? 1 : 0, 1);
    }

    private static void fields() {
        int open = 0;
        for (Field f : HuesApart.class.getDeclaredFields()) {
            if (!Modifier.isPrivate(f.getModifiers())) {
                open++;
            }
            if (Modifier.isStatic(f.getModifiers())) {
                check.due(f.getName() + " is final", Modifier.isFinal(f.getModifiers()) ? 1 : 0, 1);
            }
        }
        check.due("fields that are not private", open, 4);
    }

    private static TreeSet<String> methods() {
        TreeSet<String> want = new TreeSet<>(java.util.List.of(METHODS));
        TreeSet<String> names = new TreeSet<>();
        for (String m : METHODS) {
            names.add(m.substring(0, m.indexOf(' ')));
        }
        int open = 0;
        for (Method m : HuesApart.class.getDeclaredMethods()) {
            if (Modifier.isPrivate(m.getModifiers())) {
                check.due(m.getName() + " is no name of the face", names.contains(m.getName()) ? 1 : 0, 0);
                continue;
            }
            open++;
            check.due(m + " is of the face", want.contains(m.getName() + " " + m.getParameterCount()) ? 1 : 0, 1);
            check.due(m + " is public", Modifier.isPublic(m.getModifiers()) ? 1 : 0, 1);
            Class<?> due = m.getName().equals("digest") ? long.class : int.class;
            check.due(m + " answers", m.getReturnType() == due ? 1 : 0, 1);
        }
        check.due("methods", open, METHODS.length);
        return names;
    }
}
