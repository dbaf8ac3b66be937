import java.lang.reflect.Constructor;
import java.lang.reflect.Field;
import java.lang.reflect.Method;
import java.lang.reflect.Modifier;
import java.util.Arrays;
import java.util.Set;
import java.util.TreeSet;

/** The public face: all of the document's members, and no other that is not private. */
final class FaceTest {
    private static final String[] METHODS = {
        "boolean image[int, int]", "int create[int]", "int run[int, int]", "int input[int, int]", "int disk[int]",
        "int move[]", "int step[]", "int deliver[int]", "int lose[int]", "int twice[int]", "boolean abort[]",
        "boolean crash[int]", "boolean back[int]", "boolean takeOver[]", "int holder[]", "int told[int]",
        "int piece[int, int]", "boolean isUp[int]", "int guest[int, int]", "int memory[int, int]",
        "int output[int, int]", "int block[int]"};
    private static final String[] CONSTANTS = {"BAD", "NO", "FULL"};

    public static void main(String[] args) {
        Check.due("public and final", MovingGuest.class.getModifiers(), Modifier.PUBLIC | Modifier.FINAL);
        same("methods", METHODS, methods());
        same("constants", CONSTANTS, constants());
        Constructor<?>[] constructors = MovingGuest.class.getDeclaredConstructors();
        Check.due("constructors", constructors.length, 1);
        Check.due("its parameters", constructors[0].getParameterCount(), 0);
        Check.due("its modifiers", constructors[0].getModifiers(), Modifier.PUBLIC);
        namesAreNotUsedAgain();
        classesInside();
        Check.end();
    }

    private static void namesAreNotUsedAgain() {
        Set<String> names = new TreeSet<>();
        for (String method : METHODS) {
            names.add(method.substring(method.indexOf(' ') + 1, method.indexOf('[')));
        }
        Check.due("names", names.size(), METHODS.length);
        for (Method method : MovingGuest.class.getDeclaredMethods()) {
            boolean isPrivate = Modifier.isPrivate(method.getModifiers());
            Check.due(method + " has the name of a public one", isPrivate && names.contains(method.getName()), false);
        }
    }

    private static void classesInside() {
        for (Class<?> inside : MovingGuest.class.getDeclaredClasses()) {
            int modifiers = inside.getModifiers();
            Check.due(inside + " is static", Modifier.isStatic(modifiers), true);
            Check.due(inside + " is hidden", Modifier.isPublic(modifiers) || Modifier.isProtected(modifiers), false);
        }
    }

    private static void same(String what, String[] due, Set<String> got) {
        Set<String> wanted = new TreeSet<>(Arrays.asList(due));
        if (!wanted.equals(got)) {
            System.out.println(what + " are " + got);
        }
        Check.due(what, wanted.equals(got), true);
    }

    private static Set<String> methods() {
        Set<String> found = new TreeSet<>();
        for (Method method : MovingGuest.class.getDeclaredMethods()) {
            if (!Modifier.isPrivate(method.getModifiers())) {
                Check.due(method.getName() + " is public alone", method.getModifiers(), Modifier.PUBLIC);
                found.add(method.getReturnType() + " " + method.getName()
                        + Arrays.toString(method.getParameterTypes()));
            }
        }
        return found;
    }

    private static Set<String> constants() {
        int modifiers = Modifier.PUBLIC | Modifier.STATIC | Modifier.FINAL;
        Set<String> found = new TreeSet<>();
        for (Field field : MovingGuest.class.getDeclaredFields()) {
            if (!Modifier.isPrivate(field.getModifiers())) {
                Check.due(field.getName() + " is a constant", field.getModifiers(), modifiers);
                Check.due(field.getName() + " is an int", field.getType() == int.class, true);
                found.add(field.getName());
            }
        }
        return found;
    }
}
