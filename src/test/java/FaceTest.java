import java.lang.reflect.Constructor;
import java.lang.reflect.Field;
import java.lang.reflect.Method;
import java.lang.reflect.Modifier;
import java.util.ArrayList;
import java.util.List;
import java.util.Set;
import java.util.TreeSet;

/** The public face, with the exceptions that it declares, and nothing beside it. */
final class FaceTest {
    private static final String I = "IndexOutOfBoundsException";
    private static final String A = "IllegalArgumentException";
    private static final String S = "IllegalStateException";
    private static final String[] FACE = {
        "int addRoom(boolean) " + S,
        "int addDoor(int,int,int,int) " + I + "," + A + "," + S,
        "boolean turnLock(int) " + I,
        "int putCheese(int,int) " + I + "," + A + "," + S,
        "int begin(int,int) " + I + "," + A,
        "boolean go(int) " + I + "," + S,
        "int play(int) " + A + "," + S,
        "int turn() ",
        "int rooms() ",
        "int doors() ",
        "boolean isOn() ",
        "boolean isCaught() ",
        "boolean isCatsTurn() ",
        "int catIn() ",
        "int mouseIn() ",
        "int eaten() ",
        "boolean isSafe(int) " + I,
        "int cheeseIn(int) " + I,
        "int doorsOf(int) " + I,
        "boolean isLocked(int) " + I,
        "boolean isOpen(int) " + I,
        "int turnsUntilOpen(int) " + I,
        "int doorBetween(int,int) " + I,
        "boolean isWayOpen(int,int) " + I,
        "int distance(int,int) " + I,
        "int catArrives(int) " + I + "," + S,
        "int mouseArrives(int) " + I + "," + S,
        "int turnsToCatch() ",
        "int turnsFrom(int,int) " + I + "," + A,
        "int safeNow() ",
        "int bestGo() ",
        "int pairsCaught() ",
        "int longestChase() ",
        "int bestDoorToLock() ",
        "double meanTurns() ",
        "long digest() "};

    private FaceTest() {
    }

    public static void main(String[] args) {
        int modifiers = DoorChase.class.getModifiers();
        Due.is("public", Modifier.isPublic(modifiers), true);
        Due.is("final", Modifier.isFinal(modifiers), true);
        Due.is("without a package", DoorChase.class.getPackageName(), "");
        constructors();
        methods();
        fields();
        insideClasses();
        Due.end("FaceTest");
    }

    private static void constructors() {
        Constructor<?>[] all = DoorChase.class.getDeclaredConstructors();
        Due.is("constructors", all.length, 1);
        Due.is("constructor public", Modifier.isPublic(all[0].getModifiers()), true);
        Due.is("constructor's parameters", all[0].getParameterCount(), 0);
        Due.is("constructor's exceptions", all[0].getExceptionTypes().length, 0);
    }

    private static void methods() {
        Set<String> face = new TreeSet<>(List.of(FACE));
        Set<String> publicNames = new TreeSet<>();
        Set<String> found = new TreeSet<>();
        for (Method method : DoorChase.class.getDeclaredMethods()) {
            if (!Modifier.isPrivate(method.getModifiers())) {
                found.add(told(method));
                publicNames.add(method.getName());
                Due.is(method + " public", Modifier.isPublic(method.getModifiers()), true);
                Due.is(method + " static", Modifier.isStatic(method.getModifiers()), false);
            }
        }
        Due.is("the face", found, face);
        for (Method method : privateMethods()) {
            Due.is(method + " bears a public name", publicNames.contains(method.getName()), false);
        }
    }

    private static List<Method> privateMethods() {
        List<Method> all = new ArrayList<>();
        for (Method method : DoorChase.class.getDeclaredMethods()) {
            if (Modifier.isPrivate(method.getModifiers())) {
                all.add(method);
            }
        }
        for (Class<?> inside : DoorChase.class.getDeclaredClasses()) {
            all.addAll(List.of(inside.getDeclaredMethods()));
        }
        return all;
    }

    /** A method's head, without the names of its parameters. */
    static String told(Method method) {
        return method.getReturnType().getSimpleName() + " " + method.getName()
                + "(" + names(method.getParameterTypes()) + ") " + names(method.getExceptionTypes());
    }

    private static String names(Class<?>[] classes) {
        List<String> names = new ArrayList<>();
        for (Class<?> one : classes) {
            names.add(one.getSimpleName());
        }
        return String.join(",", names);
    }

    private static void fields() {
        for (Field field : DoorChase.class.getDeclaredFields()) {
            int modifiers = field.getModifiers();
            Due.is(field + " private", Modifier.isPrivate(modifiers), true);
            Due.is(field + " a constant", !Modifier.isStatic(modifiers) || Modifier.isFinal(modifiers), true);
        }
    }

    private static void insideClasses() {
        for (Class<?> inside : DoorChase.class.getDeclaredClasses()) {
            int modifiers = inside.getModifiers();
            Due.is(inside + " static", Modifier.isStatic(modifiers), true);
            Due.is(inside + " public", Modifier.isPublic(modifiers) || Modifier.isProtected(modifiers), false);
        }
    }
}
