import java.lang.reflect.Constructor;
import java.lang.reflect.Field;
import java.lang.reflect.Method;
import java.lang.reflect.Modifier;
import java.util.Map;
import java.util.Set;
import java.util.TreeSet;

/** The public face: every constant, constructor and method of the document, and no other. */
final class FaceTest {
    private static final Check C = new Check();
    private static final Set<String> METHODS = Set.of(
        "int mount()", "boolean arm(int)", "boolean spoil(int)", "int make(int,int,boolean)",
        "int move(int,int,int,int)", "int remove(int,int)", "int write(int,int,int,int)", "long read(int,int)",
        "int size(int)", "int entry(int,int)", "int kindOf(int)", "int collect()", "int freeWords(int)",
        "int deadWords(int)", "int peek(int)", "int operations()");
    private static final Map<String, Long> CONSTANTS = Map.of(
        "CLEAN", 6533L, "OFF", -1L, "BAD", -2L, "MISSING", -3L, "EXISTS", -4L, "FULL", -5L,
        "NOT_EMPTY", -6L, "LOOP", -7L, "CUT", -8L, "NO_CELL", 1099511627776L);

    private static void methods() {
        Set<String> found = new TreeSet<>();
        for (Method method : NodeLogFlash.class.getDeclaredMethods()) {
            if (method.isSynthetic() || Modifier.isPrivate(method.getModifiers())) {
                continue;
            }
            StringBuilder text = new StringBuilder();
            for (Class<?> type : method.getParameterTypes()) {
                text.append(text.length() == 0 ? "" : ",").append(type);
            }
            found.add(method.getReturnType() + " " + method.getName() + "(" + text + ")");
            C.due(method.getName() + " is public", method.getModifiers(), Modifier.PUBLIC);
        }
        C.due("the methods " + found + " are those of the document", found.equals(METHODS), true);
    }

    private static void constants() throws IllegalAccessException {
        int seen = 0;
        for (Field field : NodeLogFlash.class.getDeclaredFields()) {
            int modifiers = field.getModifiers();
            if (Modifier.isPrivate(modifiers)) {
                boolean changes = Modifier.isStatic(modifiers) && !Modifier.isFinal(modifiers);
                C.due(field.getName() + " is static and can change", changes, false);
                continue;
            }
            seen++;
            C.due(field.getName() + " is of the document", CONSTANTS.containsKey(field.getName()), true);
            C.due(field.getName(), field.getLong(null), CONSTANTS.getOrDefault(field.getName(), 0L));
            C.due(field.getName() + "'s modifiers", modifiers, Modifier.PUBLIC | Modifier.STATIC | Modifier.FINAL);
            C.due(field.getName() + " is long", field.getType() == long.class, field.getName().equals("NO_CELL"));
        }
        C.due("the number of constants", seen, CONSTANTS.size());
    }

    public static void main(String[] args) throws IllegalAccessException {
        C.due("the class's modifiers", NodeLogFlash.class.getModifiers(), Modifier.PUBLIC | Modifier.FINAL);
        Constructor<?>[] constructors = NodeLogFlash.class.getDeclaredConstructors();
        C.due("the number of constructors", constructors.length, 1);
        C.due("its parameters", constructors[0].getParameterCount(), 0);
        C.due("its modifiers", constructors[0].getModifiers(), Modifier.PUBLIC);
        methods();
        constants();
        C.end();
    }
}
