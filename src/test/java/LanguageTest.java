import java.lang.reflect.Array;
import java.lang.reflect.Executable;
import java.lang.reflect.Field;
import java.lang.reflect.Modifier;
import java.util.ArrayDeque;
import java.util.ArrayList;
import java.util.Collections;
import java.util.Deque;
import java.util.IdentityHashMap;
import java.util.List;
import java.util.Random;
import java.util.Set;

/** The rules of LANGUAGE.md that can be seen from the compiled class, and the room of an object. */
public final class LanguageTest {
    private static final int MOST_CLASSES = 12;
    private static final int MOST_FIELDS = 20;
    private static final int MOST_PARAMETERS = 7;
    /** What an object may keep: far below the 600,000 and 7.3 million of the room of a run. */
    private static final int MOST_KEPT_OBJECTS = 40;
    private static final int MOST_KEPT_ELEMENTS = 5000;
    private static final int[] STRANGE = {Integer.MIN_VALUE, -1, 0, 1, 2, 8, 63, 64, 100000, Integer.MAX_VALUE};

    private static final Set<String> FACE = Set.of("read", "write", "barrier", "expire", "tick", "dispatch",
            "state", "value", "sector", "waiting", "ready", "requestOf", "about", "latest", "head", "now", "batch");

    private static final Check check = new Check();

    public static void main(String[] args) throws IllegalAccessException {
        for (Class<?> each : allClasses()) {
            theClass(each);
        }
        theRoomOfAnObject();
        noCallThrowsInAnyState();
        check.end();
    }

    private static List<Class<?>> allClasses() {
        List<Class<?>> all = new ArrayList<>(List.of(DeadlineElevator.class));
        for (int i = 0; i < all.size(); i++) {
            all.addAll(List.of(all.get(i).getDeclaredClasses()));
        }
        check.due("rule 11: the number of classes", all.size() <= MOST_CLASSES, true);
        return all;
    }

    private static void theClass(Class<?> each) {
        int modifiers = each.getModifiers();
        if (each != DeadlineElevator.class) {
            boolean closed = !Modifier.isPublic(modifiers) && !Modifier.isProtected(modifiers);
            check.due("rule 1: " + each + " is not open", closed, true);
            check.due("rule 1: " + each + " is static", Modifier.isStatic(modifiers), true);
        }
        int fields = 0;
        for (Field field : each.getDeclaredFields()) {
            if (Modifier.isStatic(field.getModifiers())) {
                check.due("rule 5: " + field + " is final", Modifier.isFinal(field.getModifiers()), true);
            } else {
                fields++;
            }
        }
        check.due("rule 11: the fields of " + each, fields <= MOST_FIELDS, true);
        for (Executable method : executables(each)) {
            boolean closed = Modifier.isPrivate(method.getModifiers());
            check.due("rule 1: " + method, closed && FACE.contains(method.getName()), false);
            check.due("rule 11: " + method, method.getParameterCount() <= MOST_PARAMETERS, true);
            check.due("rule 6: " + method, Modifier.isSynchronized(method.getModifiers()), false);
        }
    }

    private static List<Executable> executables(Class<?> each) {
        List<Executable> all = new ArrayList<>(List.of(each.getDeclaredMethods()));
        all.addAll(List.of(each.getDeclaredConstructors()));
        return all;
    }

    /** Rule 12: a new object keeps little, and its 512 calls add nothing. */
    private static void theRoomOfAnObject() throws IllegalAccessException {
        DeadlineElevator x = new DeadlineElevator();
        int[] atFirst = kept(x);
        check.due("objects and arrays " + atFirst[0], atFirst[0] <= MOST_KEPT_OBJECTS, true);
        check.due("fields and elements " + atFirst[1], atFirst[1] <= MOST_KEPT_ELEMENTS, true);
        Random random = new Random(1);
        for (int i = 0; i < 512; i++) {
            call(x, i % 17, random.nextInt(64), 1 + random.nextInt(8));
        }
        int[] atLast = kept(x);
        check.due("objects and arrays after 512 calls", atLast[0], atFirst[0]);
        check.due("fields and elements after 512 calls", atLast[1], atFirst[1]);
    }

    /** How many objects and arrays can be reached, and how many fields and elements they have. */
    private static int[] kept(Object root) throws IllegalAccessException {
        Set<Object> seen = Collections.newSetFromMap(new IdentityHashMap<>());
        Deque<Object> open = new ArrayDeque<>(List.of(root));
        int elements = 0;
        while (!open.isEmpty()) {
            Object next = open.pop();
            if (seen.add(next)) {
                elements += next.getClass().isArray() ? Array.getLength(next) : fieldsOf(next, open);
            }
        }
        return new int[] {seen.size(), elements};
    }

    /** Counts the fields of an object, and opens what they refer to. */
    private static int fieldsOf(Object object, Deque<Object> open) throws IllegalAccessException {
        int fields = 0;
        for (Field field : object.getClass().getDeclaredFields()) {
            if (!Modifier.isStatic(field.getModifiers())) {
                field.setAccessible(true);
                fields++;
                if (!field.getType().isPrimitive() && field.get(object) != null) {
                    open.push(field.get(object));
                }
            }
        }
        return fields;
    }

    /** Rule 7: "for any arguments in any state", so far beyond the 512 calls and past the greatest time. */
    private static void noCallThrowsInAnyState() {
        for (int seed = 0; seed < 20; seed++) {
            Random random = new Random(seed);
            DeadlineElevator x = new DeadlineElevator();
            for (int i = 0; i < 30000; i++) {
                int a = seed % 2 == 0 ? random.nextInt(64) : STRANGE[random.nextInt(STRANGE.length)];
                int b = random.nextInt(3) > 0 ? 1 + random.nextInt(8) : STRANGE[random.nextInt(STRANGE.length)];
                int kind = random.nextInt(20);
                call(x, kind, kind >= 17 ? 100000 : a, b);
            }
            check.due("a look after all these calls", x.waiting(0) + x.waiting(1) <= 24, true);
        }
    }

    private static void call(DeadlineElevator x, int kind, int a, int b) {
        switch (kind) {
            case 0 -> x.read(a, b);
            case 1 -> x.write(a, b, a);
            case 2 -> x.barrier();
            case 3 -> x.expire(a, b);
            case 4 -> x.dispatch();
            case 5 -> x.state(a);
            case 6 -> x.value(a, b);
            case 7 -> x.sector(a);
            case 8 -> x.waiting(b);
            case 9 -> x.ready(a % 2);
            case 10 -> x.requestOf(a);
            case 11 -> x.about(a, b);
            case 12 -> x.latest();
            case 13 -> x.head();
            case 14 -> x.now();
            case 15 -> x.batch();
            default -> x.tick(a);
        }
    }
}
