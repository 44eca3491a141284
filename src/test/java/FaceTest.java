import java.lang.reflect.Field;
import java.lang.reflect.Method;
import java.lang.reflect.Modifier;
import java.util.Arrays;
import java.util.Set;
import java.util.TreeSet;

/** The class has the document's face, and nothing else of it is seen from outside. */
public final class FaceTest {
    private static final String[] FACE = {
        "int crossing(int, int, int, int, int)", "int circles(int)", "int clear()", "int fault()",
        "int sweep(int)", "long bracket(int)", "long jones(int)", "int span(boolean, boolean)",
        "int state(int)", "int look(int, int)", "boolean resolve(int, boolean)",
        "boolean change(int)", "boolean move(int, int)"
    };

    private final Check check = new Check();

    public static void main(String[] args) throws ReflectiveOperationException {
        FaceTest test = new FaceTest();
        test.theClass();
        test.theMethods();
        test.theFields();
        test.check.end();
    }

    private void theClass() throws ReflectiveOperationException {
        Class<?> face = BracketSweep.class;
        check.due("public", Modifier.isPublic(face.getModifiers()), true);
        check.due("final", Modifier.isFinal(face.getModifiers()), true);
        check.due("constructors", face.getDeclaredConstructors().length, 1);
        int modifiers = face.getDeclaredConstructor().getModifiers();
        check.due("public constructor", Modifier.isPublic(modifiers), true);
        for (Class<?> inside : face.getDeclaredClasses()) {
            check.due(inside + " static", Modifier.isStatic(inside.getModifiers()), true);
            check.due(inside + " public", Modifier.isPublic(inside.getModifiers()), false);
        }
    }

    private void theMethods() {
        Set<String> seen = new TreeSet<>();
        Set<String> publicNames = new TreeSet<>();
        for (Method m : BracketSweep.class.getDeclaredMethods()) {
            if (!Modifier.isPrivate(m.getModifiers())) {
                check.due(m + " public", Modifier.isPublic(m.getModifiers()), true);
                check.due(m + " static", Modifier.isStatic(m.getModifiers()), false);
                seen.add(told(m));
                publicNames.add(m.getName());
            }
        }
        for (String method : FACE) {
            check.due(method + " there", seen.remove(method), true);
        }
        check.due("others " + seen, seen.size(), 0);
        for (Method m : BracketSweep.class.getDeclaredMethods()) {
            if (Modifier.isPrivate(m.getModifiers())) {
                check.due(m + " named like the face", publicNames.contains(m.getName()), false);
            }
        }
    }

    private static String told(Method m) {
        String parameters = Arrays.toString(m.getParameterTypes());
        return m.getReturnType() + " " + m.getName()
            + "(" + parameters.substring(1, parameters.length() - 1) + ")";
    }

    private void theFields() {
        for (Field f : BracketSweep.class.getDeclaredFields()) {
            check.due(f + " private", Modifier.isPrivate(f.getModifiers()), true);
            if (Modifier.isStatic(f.getModifiers())) {
                check.due(f + " final", Modifier.isFinal(f.getModifiers()), true);
            }
        }
    }
}
