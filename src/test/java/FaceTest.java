import java.lang.reflect.Constructor;
import java.lang.reflect.Field;
import java.lang.reflect.Method;
import java.lang.reflect.Modifier;
import java.util.ArrayList;
import java.util.List;
import java.util.TreeSet;

/** "The public face": every constant, constructor and method with its exceptions, and nothing else that is not private. */
public final class FaceTest {
    private static final Check check = new Check();
    private static final String BOUNDS = "IndexOutOfBoundsException", ARGUMENT = "IllegalArgumentException";
    private static final String STATE = "IllegalStateException", NONE = "NoSuchElementException";
    private static final String[] METHODS = {
        "void run(long) " + ARGUMENT, "long local()", "long slew()",
        "void put(int, long, int) " + ARGUMENT + " " + BOUNDS,
        "void echo(int, long, long) " + BOUNDS + " " + STATE,
        "long send(int) " + BOUNDS + " " + STATE,
        "int receive(int) " + BOUNDS + " " + ARGUMENT + " " + STATE,
        "int reach(int) " + BOUNDS, "int poll(int) " + BOUNDS, "int samples(int) " + BOUNDS,
        "long offset(int) " + BOUNDS + " " + NONE, "long delay(int) " + BOUNDS + " " + NONE,
        "long jitter(int) " + BOUNDS + " " + NONE, "long distance(int) " + BOUNDS + " " + NONE,
        "int candidates()", "long low() " + NONE, "long high() " + NONE, "int survivors()", "int peer() " + NONE,
        "int update() " + STATE + " UnsupportedOperationException"};

    public static void main(String[] args) throws IllegalAccessException {
        check.due("modifiers of the class", Modifier.toString(StrataClient.class.getModifiers()), "public final");
        constants();
        constructors();
        methods();
        privateNames();
        check.end();
    }

    private static void constants() throws IllegalAccessException {
        TreeSet<String> seen = new TreeSet<>();
        for (Field field : StrataClient.class.getDeclaredFields()) {
            if (!Modifier.isPrivate(field.getModifiers())) {
                seen.add(Modifier.toString(field.getModifiers()) + " " + field.getType() + " " + field.getName() + " "
                    + field.getInt(null));
            }
        }
        TreeSet<String> due = new TreeSet<>();
        String[] names = {"SAMPLE 0", "UNSYNCHRONIZED 1", "KISS 2", "WILD 3", "SLEWED 0", "STEPPED 1"};
        for (String name : names) {
            due.add("public static final int " + name);
        }
        check.due("the constants", seen.toString(), due.toString());
    }

    private static void constructors() {
        Constructor<?>[] all = StrataClient.class.getDeclaredConstructors();
        check.due("how many constructors", all.length, 1);
        check.due("parameters of the constructor", all[0].getParameterCount(), 0);
        check.due("its modifiers", Modifier.toString(all[0].getModifiers()), "public");
    }

    private static void methods() {
        TreeSet<String> seen = new TreeSet<>();
        for (Method method : StrataClient.class.getDeclaredMethods()) {
            if (!Modifier.isPrivate(method.getModifiers())) {
                check.due("modifiers of " + method.getName(), Modifier.toString(method.getModifiers()), "public");
                seen.add(line(method));
            }
        }
        check.due("the methods", seen.toString(), new TreeSet<>(List.of(METHODS)).toString());
    }

    private static String line(Method method) {
        List<String> types = new ArrayList<>();
        for (Class<?> type : method.getParameterTypes()) {
            types.add(type.getSimpleName());
        }
        StringBuilder line = new StringBuilder(method.getReturnType().getSimpleName() + " " + method.getName() + "("
            + String.join(", ", types) + ")");
        for (Class<?> thrown : method.getExceptionTypes()) {
            line.append(' ').append(thrown.getSimpleName());
        }
        return line.toString();
    }

    private static void privateNames() {
        TreeSet<String> open = new TreeSet<>();
        TreeSet<String> closed = new TreeSet<>();
        for (Method method : StrataClient.class.getDeclaredMethods()) {
            (Modifier.isPrivate(method.getModifiers()) ? closed : open).add(method.getName());
        }
        closed.retainAll(open);
        check.due("private methods with a public one's name", closed.toString(), "[]");
        for (Class<?> inside : StrataClient.class.getDeclaredClasses()) {
            int modifiers = inside.getModifiers();
            boolean hidden = !Modifier.isPublic(modifiers) && !Modifier.isProtected(modifiers);
            check.due(inside.getName() + " is static and not public", hidden && Modifier.isStatic(modifiers) ? 1 : 0, 1);
        }
    }
}
