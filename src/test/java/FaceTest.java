import java.io.IOException;
import java.lang.reflect.Constructor;
import java.lang.reflect.Field;
import java.lang.reflect.Method;
import java.lang.reflect.Modifier;
import java.nio.file.Files;
import java.nio.file.Path;
import java.util.Arrays;
import java.util.Set;
import java.util.TreeSet;
import java.util.stream.Collectors;

/**
 * The public face: exactly the members of the document, and nothing else that is not private; and in the file the
 * calls stand in the document's order, below the headings that 'Terms' asks for.
 */
public final class FaceTest {
    private static final String[] DUE = {
        "int addDoor(int,int,int,int) IndexOutOfBoundsException,IllegalArgumentException,IllegalStateException",
        "int addPlace(int) IllegalArgumentException,IllegalStateException",
        "boolean setDoor(int,boolean) IndexOutOfBoundsException",
        "int come(int,int) IndexOutOfBoundsException,IllegalArgumentException,IllegalStateException",
        "int setRelease(int,int) IndexOutOfBoundsException,IllegalArgumentException",
        "int places() ",
        "int doors() ",
        "int step(int) IllegalArgumentException",
        "int clear() ",
        "int now() ",
        "int people(int) IndexOutOfBoundsException",
        "int inside() ",
        "int latest() NoSuchElementException",
        "int passed(int) IndexOutOfBoundsException",
        "int waited() ",
        "int distance(int) IndexOutOfBoundsException,NoSuchElementException",
        "int door(int) IndexOutOfBoundsException,NoSuchElementException",
        "int trapped() ",
        "int wouldMove(int) IndexOutOfBoundsException",
        "int bound() IllegalStateException",
    };

    private static final String IN_THE_FILE = "[what is built] addPlace addDoor setDoor come setRelease places doors"
        + " [steps] step clear now [people] people inside latest passed waited"
        + " [ways] distance door trapped wouldMove [the bound] bound";

    public static void main(String[] args) throws IOException {
        Check check = new Check();
        Set<String> open = new TreeSet<>();
        Set<String> hidden = new TreeSet<>();
        for (Method method : Stairflow.class.getDeclaredMethods()) {
            if (Modifier.isPrivate(method.getModifiers())) {
                hidden.add(method.getName());
            } else {
                check.holds(method + " is public", Modifier.isPublic(method.getModifiers()));
                open.add(told(method));
            }
        }
        check.equal("the methods", open.toString(), new TreeSet<>(Arrays.asList(DUE)).toString());
        for (String line : DUE) {
            String name = line.substring(line.indexOf(' ') + 1, line.indexOf('('));
            check.holds("no private method bears the name " + name, !hidden.contains(name));
        }
        for (Field field : Stairflow.class.getDeclaredFields()) {
            check.holds(field + " is private", Modifier.isPrivate(field.getModifiers()));
        }
        checkConstructors(check);
        check.equal("the headings and calls in the file", headingsAndCalls(), IN_THE_FILE);
        check.holds("the class is final", Modifier.isFinal(Stairflow.class.getModifiers()));
        check.holds("the class is public", Modifier.isPublic(Stairflow.class.getModifiers()));
        check.end();
    }

    private static void checkConstructors(Check check) {
        Constructor<?>[] all = Stairflow.class.getDeclaredConstructors();
        check.equal("constructors", all.length, 1);
        check.equal("its parameters", all[0].getParameterCount(), 0);
        check.holds("it is public", Modifier.isPublic(all[0].getModifiers()));
    }

    /** A heading without a public call below it is the program's own, and is left out. */
    private static String headingsAndCalls() throws IOException {
        StringBuilder text = new StringBuilder();
        String heading = "";
        for (String line : Files.readAllLines(Path.of("src/main/java/Stairflow.java"))) {
            if (line.startsWith("    // ---- ")) {
                heading = " [" + line.substring(12) + "]";
            } else if (line.startsWith("    public ") && !line.startsWith("    public Stairflow(")) {
                String ahead = line.substring(0, line.indexOf('('));
                text.append(heading).append(ahead.substring(ahead.lastIndexOf(' ')));
                heading = "";
            }
        }
        return text.toString().trim();
    }

    private static String told(Method method) {
        return method.getReturnType().getSimpleName() + " " + method.getName()
            + "(" + names(method.getParameterTypes()) + ") " + names(method.getExceptionTypes());
    }

    private static String names(Class<?>[] types) {
        return Arrays.stream(types).map(Class::getSimpleName).collect(Collectors.joining(","));
    }
}
