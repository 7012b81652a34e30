import java.lang.reflect.Constructor;
import java.lang.reflect.Field;
import java.lang.reflect.Method;
import java.lang.reflect.Modifier;
import java.util.Arrays;
import java.util.HashSet;
import java.util.Set;
import java.util.TreeSet;

/** The public face: just what the document lists, and nothing else that is not private. */
public final class FaceTest {
    private static final String IOOBE = "IndexOutOfBoundsException";
    private static final String IAE = "IllegalArgumentException";
    private static final String ISE = "IllegalStateException";

    public static void main(String[] args) {
        Due.is("the class's modifiers", Modifier.PUBLIC | Modifier.FINAL, Rescuemarket.class.getModifiers());
        constants();
        methods();
        constructors();
        insides();
        Due.end();
    }

    private static void constants() {
        Due.is("NONE", -1, Rescuemarket.NONE);
        Due.is("FREE", 0, Rescuemarket.FREE);
        Due.is("OUT", 1, Rescuemarket.OUT);
        Due.is("RESTS", 2, Rescuemarket.RESTS);
        Due.is("OPEN", 0, Rescuemarket.OPEN);
        Due.is("TASKED", 1, Rescuemarket.TASKED);
        Due.is("DONE", 2, Rescuemarket.DONE);
        Due.is("LOST", 3, Rescuemarket.LOST);
        Set<String> seen = new TreeSet<>();
        for (Field field : Rescuemarket.class.getDeclaredFields()) {
            int modifiers = field.getModifiers();
            if (!Modifier.isPrivate(modifiers)) {
                seen.add(field.getName());
                int due = Modifier.PUBLIC | Modifier.STATIC | Modifier.FINAL;
                Due.is(field + "'s modifiers", due, modifiers);
                Due.is(field + "'s type", int.class, field.getType());
            }
        }
        String[] due = {"NONE", "FREE", "OUT", "RESTS", "OPEN", "TASKED", "DONE", "LOST"};
        Due.is("the constants", new TreeSet<>(Arrays.asList(due)), seen);
    }

    private static void methods() {
        Set<String> due = new TreeSet<>(Arrays.asList(
                "int boat 5 " + IOOBE + " " + IAE + " " + ISE,
                "int lend 2 " + IOOBE,
                "int foretell 5 " + IOOBE + " " + IAE,
                "int call 3 " + IOOBE + " " + IAE + " " + ISE,
                "int cap 1 " + IAE,
                "int pass 1 " + IAE + " " + ISE,
                "int storm 2 " + IOOBE + " " + IAE,
                "int ofBoat 2 " + IOOBE + " " + IAE,
                "int ofCall 2 " + IOOBE + " " + IAE,
                "int rewards 1 " + IOOBE,
                "int rewardsAnew 1 " + IOOBE,
                "float premium 1 " + IOOBE));
        Set<String> seen = new TreeSet<>();
        Set<String> names = new HashSet<>();
        for (Method method : Rescuemarket.class.getDeclaredMethods()) {
            if (!Modifier.isPrivate(method.getModifiers())) {
                Due.is(method + "'s modifiers", Modifier.PUBLIC, method.getModifiers());
                seen.add(told(method));
                names.add(method.getName());
            }
        }
        Due.is("the methods", due, seen);
        for (Method method : Rescuemarket.class.getDeclaredMethods()) {
            boolean hidden = Modifier.isPrivate(method.getModifiers());
            Due.is(method + " bears a public name", false, hidden && names.contains(method.getName()));
        }
    }

    private static String told(Method method) {
        StringBuilder told = new StringBuilder();
        told.append(method.getReturnType()).append(' ').append(method.getName());
        told.append(' ').append(method.getParameterCount());
        for (Class<?> type : method.getParameterTypes()) {
            Due.is(method + "'s parameters", int.class, type);
        }
        for (Class<?> kind : method.getExceptionTypes()) {
            told.append(' ').append(kind.getSimpleName());
        }
        return told.toString();
    }

    private static void constructors() {
        Constructor<?>[] constructors = Rescuemarket.class.getDeclaredConstructors();
        Due.is("how many constructors", 1, constructors.length);
        Due.is("the constructor's modifiers", Modifier.PUBLIC, constructors[0].getModifiers());
        Due.is("the constructor's parameters", 0, constructors[0].getParameterCount());
    }

    private static void insides() {
        for (Class<?> inside : Rescuemarket.class.getDeclaredClasses()) {
            int modifiers = inside.getModifiers();
            Due.is(inside + " is static", true, Modifier.isStatic(modifiers));
            Due.is(inside + " is public or protected", false,
                    Modifier.isPublic(modifiers) || Modifier.isProtected(modifiers));
        }
    }
}
