import java.io.IOException;
import java.lang.reflect.Constructor;
import java.lang.reflect.Field;
import java.lang.reflect.Method;
import java.lang.reflect.Modifier;
import java.nio.file.Files;
import java.nio.file.Path;
import java.util.Arrays;
import java.util.List;
import java.util.Set;
import java.util.TreeSet;

/** The public face: just what the document names, and nothing else that could be seen from outside. */
public final class FaceTest {
    private static final List<String> FACE = List.of(
        "int lay(int, int) IllegalArgumentException",
        "int setField(int, int, int, int) IndexOutOfBoundsException, IllegalArgumentException",
        "int moveStone(int, int, int) IndexOutOfBoundsException, IllegalArgumentException",
        "int turn(int, int, int) IndexOutOfBoundsException, IllegalArgumentException",
        "int setShare(int, int) IndexOutOfBoundsException, IllegalArgumentException",
        "int setDay(int, int, int, int) IndexOutOfBoundsException, IllegalArgumentException",
        "int plant(int, int, int) IndexOutOfBoundsException, IllegalArgumentException, IllegalStateException",
        "int reap(int, int) IndexOutOfBoundsException, IllegalStateException",
        "int pass(int) IllegalArgumentException, IllegalStateException",
        "int field(int, int, int) IndexOutOfBoundsException",
        "int count(int) IndexOutOfBoundsException",
        "int weather(int, int) IndexOutOfBoundsException",
        "int foresee(int, int) IllegalArgumentException, IndexOutOfBoundsException, IllegalStateException",
        "int advise(int, int) IllegalArgumentException, IndexOutOfBoundsException, IllegalStateException",
        "double depth() ",
        "long digest() ");

    public static void main(String[] args) throws IOException {
        Checks c = new Checks();
        dueAsInTheDocument(c);
        Class<?> program = PaddyTerraces.class;
        int modifiers = program.getModifiers();
        c.due("the class is public and final", Modifier.isPublic(modifiers) && Modifier.isFinal(modifiers) ? 1 : 0, 1);
        c.due("its constructors", program.getDeclaredConstructors().length, 1);
        for (Constructor<?> made : program.getDeclaredConstructors()) {
            c.due("parameters of the constructor", made.getParameterCount(), 0);
            c.due("the constructor is public", Modifier.isPublic(made.getModifiers()) ? 1 : 0, 1);
        }
        dueMethods(c, program);
        for (Field field : program.getDeclaredFields()) {
            c.due("the field " + field.getName() + " is private", Modifier.isPrivate(field.getModifiers()) ? 1 : 0, 1);
        }
        for (Class<?> inside : program.getDeclaredClasses()) {
            int seen = inside.getModifiers();
            boolean kept = Modifier.isStatic(seen) && !Modifier.isPublic(seen) && !Modifier.isProtected(seen);
            c.due("the class " + inside.getSimpleName() + " is static and not public", kept ? 1 : 0, 1);
        }
        c.end();
    }

    /** Each line of the document's face stands in the program too, with the names of the parameters. */
    private static void dueAsInTheDocument(Checks c) throws IOException {
        String document = Files.readString(Path.of("../shared/DOC.md"));
        int begin = document.indexOf("```java\n", document.indexOf("## The public face")) + "```java\n".length();
        String face = document.substring(begin, document.indexOf("```", begin));
        String program = Files.readString(Path.of("src/main/java/PaddyTerraces.java")).replaceAll("\\s+", " ");
        int lines = 0;
        for (String line : face.lines().map(String::strip).filter(told -> told.startsWith("public")).toList()) {
            String due = line.replaceAll("[;{]$", "").strip() + " {";
            c.due("the program has \"" + due + "\" (1 if so)", program.contains(due) ? 1 : 0, 1);
            lines++;
        }
        c.due("lines of the document's face: the class, its constructor and methods", lines, 2 + FACE.size());
    }

    private static void dueMethods(Checks c, Class<?> program) {
        Set<String> face = new TreeSet<>();
        Set<String> names = new TreeSet<>();
        for (Method method : program.getDeclaredMethods()) {
            if (!Modifier.isPrivate(method.getModifiers())) {
                face.add(told(method));
                names.add(method.getName());
            }
        }
        if (!face.equals(new TreeSet<>(FACE))) {
            c.tell("the face is " + face);
        }
        for (Method method : program.getDeclaredMethods()) {
            if (Modifier.isPrivate(method.getModifiers()) && names.contains(method.getName())) {
                c.tell("a private method bears the public name " + method.getName());
            }
        }
    }

    private static String told(Method method) {
        return (Modifier.isStatic(method.getModifiers()) ? "static " : "") + method.getReturnType().getSimpleName()
            + " " + method.getName() + "(" + names(method.getParameterTypes()) + ") "
            + names(method.getExceptionTypes());
    }

    private static String names(Class<?>[] types) {
        return String.join(", ", Arrays.stream(types).map(Class::getSimpleName).toList());
    }
}
