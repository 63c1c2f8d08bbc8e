import java.lang.reflect.Constructor;
import java.lang.reflect.Executable;
import java.lang.reflect.Field;
import java.lang.reflect.Method;
import java.lang.reflect.Modifier;
import java.util.Arrays;
import java.util.Set;
import java.util.TreeSet;

/** The class has the document's face and nothing else that can be seen from outside (LANGUAGE.md, rules 1 and 5). */
public final class FaceTest {
    private static final Set<String> FACE = new TreeSet<>(Arrays.asList(
        "BAD int -2", "FULL int -3", "DEEP int -4", "ALLOWED int 1", "REFUSED int 0", "DENIED int -1",
        "DecisionLayers()",
        "int test(int, int, long, int)", "int join(int, int)", "boolean discard()", "int pile()",
        "int state(int, int, long, long, int)", "boolean open(int)", "boolean drop(int)", "int statements(int)",
        "int offer(int, long)", "int forget(int)", "int decide(int, int, long, long, int)", "int layer()",
        "int applied(int)", "boolean matches(long, long, boolean)", "boolean holds(int)"));

    private static int wrong = 0;

    public static void main(String[] args) throws IllegalAccessException {
        int modifiers = DecisionLayers.class.getModifiers();
        check(Modifier.isPublic(modifiers) && Modifier.isFinal(modifiers), "the class is public and final");
        check(DecisionLayers.class.getPackageName().isEmpty(), "the class has no package");
        checkMembers();
        checkNested();
        System.out.println(wrong == 0 ? "the face is as due" : wrong + " things are not as due");
        if (wrong != 0) {
            System.exit(1);
        }
    }

    private static void checkMembers() throws IllegalAccessException {
        Set<String> seen = new TreeSet<>();
        for (Field field : DecisionLayers.class.getDeclaredFields()) {
            if (!Modifier.isPrivate(field.getModifiers())) {
                check(isConstant(field), field.getName() + " is a public constant");
                seen.add(field.getName() + " " + field.getType() + " " + field.get(null));
            }
        }
        for (Constructor<?> made : DecisionLayers.class.getDeclaredConstructors()) {
            if (!Modifier.isPrivate(made.getModifiers())) {
                seen.add("DecisionLayers" + parameters(made));
            }
        }
        for (Method method : DecisionLayers.class.getDeclaredMethods()) {
            if (!Modifier.isPrivate(method.getModifiers())) {
                check(method.getModifiers() == Modifier.PUBLIC, method.getName() + " is public and no more");
                seen.add(method.getReturnType() + " " + method.getName() + parameters(method));
            }
        }
        check(seen.equals(FACE), "the members are " + FACE + ", but there are " + seen);
    }

    private static void checkNested() {
        for (Class<?> nested : DecisionLayers.class.getDeclaredClasses()) {
            int modifiers = nested.getModifiers();
            check(Modifier.isStatic(modifiers), nested.getName() + " is static");
            check(!Modifier.isPublic(modifiers) && !Modifier.isProtected(modifiers), nested.getName() + " is not seen");
            for (Field field : nested.getDeclaredFields()) {
                int kind = field.getModifiers();
                check(!Modifier.isStatic(kind) || Modifier.isFinal(kind), nested.getName() + " has no static state");
            }
        }
    }

    private static boolean isConstant(Field field) {
        return field.getModifiers() == (Modifier.PUBLIC | Modifier.STATIC | Modifier.FINAL);
    }

    private static String parameters(Executable call) {
        String types = Arrays.toString(call.getParameterTypes());
        return "(" + types.substring(1, types.length() - 1) + ")";
    }

    private static void check(boolean so, String what) {
        if (!so) {
            wrong++;
            System.out.println("not so: " + what);
        }
    }
}
