import java.lang.reflect.Constructor;
import java.lang.reflect.Field;
import java.lang.reflect.Method;
import java.lang.reflect.Modifier;
import java.util.Arrays;
import java.util.Set;
import java.util.TreeSet;
import java.util.stream.Collectors;

/** The public face: exactly the members of the document, and nothing else that is not private. */
public final class FaceTest {
    private static final String[] DUE = {
        "int addDoor(int,int,int,int) IndexOutOfBoundsException,IllegalArgumentException,IllegalStateException",
        "int addPlace(int) IllegalArgumentException,IllegalStateException",
        "boolean setDoor(int,boolean) IndexOutOfBoundsException",
        "int come(int,int) IndexOutOfBoundsException,IllegalArgumentException,IllegalStateException",
        "int setRelease(int,int) IndexOutOfBoundsException,IllegalArgumentException",
        "int places() ",
        "int doors() ",
        "int step(int) IllegalArgumentException",
        "int clear() ",
        "int now() ",
        "int people(int) IndexOutOfBoundsException",
        "int inside() ",
        "int latest() NoSuchElementException",
        "int passed(int) IndexOutOfBoundsException",
        "int waited() ",
        "int distance(int) IndexOutOfBoundsException,NoSuchElementException",
        "int door(int) IndexOutOfBoundsException,NoSuchElementException",
        "int trapped() ",
        "int wouldMove(int) IndexOutOfBoundsException",
        "int bound() IllegalStateException",
    };

    public static void main(String[] args) {
        Check check = new Check();
        Set<String> open = new TreeSet<>();
        Set<String> hidden = new TreeSet<>();
        for (Method method : Stairflow.class.getDeclaredMethods()) {
            if (Modifier.isPrivate(method.getModifiers())) {
                hidden.add(method.getName());
            } else {
                check.holds(method + " is public", Modifier.isPublic(method.getModifiers()));
                open.add(told(method));
            }
        }
        check.equal("the methods", open.toString(), new TreeSet<>(Arrays.asList(DUE)).toString());
        for (String line : DUE) {
            String name = line.substring(line.indexOf(' ') + 1, line.indexOf('('));
            check.holds("no private method bears the name " + name, !hidden.contains(name));
        }
        for (Field field : Stairflow.class.getDeclaredFields()) {
            check.holds(field + " is private", Modifier.isPrivate(field.getModifiers()));
        }
        checkConstructors(check);
        check.holds("the class is final", Modifier.isFinal(Stairflow.class.getModifiers()));
        check.holds("the class is public", Modifier.isPublic(Stairflow.class.getModifiers()));
        check.end();
    }

    private static void checkConstructors(Check check) {
        Constructor<?>[] all = Stairflow.class.getDeclaredConstructors();
        check.equal("constructors", all.length, 1);
        check.equal("its parameters", all[0].getParameterCount(), 0);
        check.holds("it is public", Modifier.isPublic(all[0].getModifiers()));
    }

    private static String told(Method method) {
        return method.getReturnType().getSimpleName() + " " + method.getName()
            + "(" + names(method.getParameterTypes()) + ") " + names(method.getExceptionTypes());
    }

    private static String names(Class<?>[] types) {
        return Arrays.stream(types).map(Class::getSimpleName).collect(Collectors.joining(","));
    }
}
