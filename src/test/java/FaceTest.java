import java.lang.reflect.Constructor;
import java.lang.reflect.Field;
import java.lang.reflect.Method;
import java.lang.reflect.Modifier;
import java.util.Set;
import java.util.TreeSet;

/** The public face: its constants and signatures, and no member beside them that is not private. */
public final class FaceTest {
    private static final Set<String> METHODS = Set.of(
            "int read(int,int)", "int write(int,int,int)", "int barrier()", "boolean expire(int,int)",
            "boolean tick(int)", "int dispatch()", "int state(int)", "int value(int,int)", "int sector(int)",
            "int waiting(int)", "int ready(int)", "int requestOf(int)", "int about(int,int)", "int latest()",
            "int head()", "int now()", "int batch()");

    private static final Check check = new Check();

    public static void main(String[] args) {
        theClassIsPublicAndFinal();
        theConstants();
        theMethods();
        theConstructor();
        check.end();
    }

    private static void theClassIsPublicAndFinal() {
        int modifiers = DeadlineElevator.class.getModifiers();
        check.due("public", Modifier.isPublic(modifiers), true);
        check.due("final", Modifier.isFinal(modifiers), true);
    }

    private static void theConstants() {
        check.due("NONE", DeadlineElevator.NONE, -1);
        check.due("FULL", DeadlineElevator.FULL, -2);
        Set<String> open = new TreeSet<>();
        for (Field field : DeadlineElevator.class.getDeclaredFields()) {
            if (!Modifier.isPrivate(field.getModifiers())) {
                open.add(field.getName());
            }
            if (Modifier.isStatic(field.getModifiers())) {
                check.due(field + " is final", Modifier.isFinal(field.getModifiers()), true);
            }
        }
        check.due("open fields " + open, open.equals(Set.of("NONE", "FULL")), true);
    }

    private static void theMethods() {
        Set<String> open = new TreeSet<>();
        Set<String> openNames = new TreeSet<>();
        Set<String> closedNames = new TreeSet<>();
        for (Method method : DeadlineElevator.class.getDeclaredMethods()) {
            if (Modifier.isPrivate(method.getModifiers())) {
                closedNames.add(method.getName());
            } else {
                check.due(method + " is public", Modifier.isPublic(method.getModifiers()), true);
                check.due(method + " is of the object", Modifier.isStatic(method.getModifiers()), false);
                open.add(signature(method));
                openNames.add(method.getName());
            }
        }
        check.due("open methods " + open, open.equals(METHODS), true);
        closedNames.retainAll(openNames);
        check.due("private methods with a public name " + closedNames, closedNames.isEmpty(), true);
    }

    private static void theConstructor() {
        Constructor<?>[] constructors = DeadlineElevator.class.getDeclaredConstructors();
        check.due("constructors", constructors.length, 1);
        check.due("parameters of the constructor", constructors[0].getParameterCount(), 0);
        check.due("public constructor", Modifier.isPublic(constructors[0].getModifiers()), true);
    }

    private static String signature(Method method) {
        StringBuilder text = new StringBuilder();
        text.append(method.getReturnType().getName()).append(' ').append(method.getName()).append('(');
        String gap = "";
        for (Class<?> type : method.getParameterTypes()) {
            text.append(gap).append(type.getName());
            gap = ",";
        }
        return text.append(')').toString();
    }
}
