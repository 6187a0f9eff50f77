import java.io.IOException;
import java.lang.reflect.Constructor;
import java.lang.reflect.Field;
import java.lang.reflect.Method;
import java.lang.reflect.Modifier;
import java.nio.file.Files;
import java.nio.file.Path;
import java.util.Arrays;
import java.util.Set;
import java.util.TreeSet;
import java.util.stream.Collectors;

/** The face of the class is the one that the document has, with no other member that can be seen. */
final class FaceTest {
    private static final Path DOCUMENT = Path.of("..", "shared", "DOC.md");

    private FaceTest() {
    }

    static void run(Check c) {
        c.is("modifiers of the class", Modifier.toString(ModHouse.class.getModifiers()), "public final");
        c.is("methods", methods().toString(), methodsOfDocument().toString());
        for (Constructor<?> constructor : ModHouse.class.getDeclaredConstructors()) {
            c.is("the constructor", constructor.toString(), "public ModHouse()");
        }
        for (Field field : ModHouse.class.getDeclaredFields()) {
            c.holds("field " + field.getName() + " is private", Modifier.isPrivate(field.getModifiers()));
        }
        for (Class<?> inside : ModHouse.class.getDeclaredClasses()) {
            c.holds("class " + inside + " is static", Modifier.isStatic(inside.getModifiers()));
            c.holds("class " + inside + " is not public", !Modifier.isPublic(inside.getModifiers()));
        }
        privateNames(c);
    }

    private static void privateNames(Check c) {
        Set<String> face = new TreeSet<>();
        for (Method method : ModHouse.class.getDeclaredMethods()) {
            if (!Modifier.isPrivate(method.getModifiers())) {
                face.add(method.getName());
            }
        }
        for (Method method : ModHouse.class.getDeclaredMethods()) {
            boolean isPrivate = Modifier.isPrivate(method.getModifiers());
            c.holds("the private " + method.getName() + " bears no name of the face",
                    !isPrivate || !face.contains(method.getName()));
        }
    }

    private static Set<String> methods() {
        Set<String> lines = new TreeSet<>();
        for (Method method : ModHouse.class.getDeclaredMethods()) {
            if (!Modifier.isPrivate(method.getModifiers())) {
                lines.add(Modifier.toString(method.getModifiers()) + " " + method.getReturnType().getSimpleName() + " "
                        + method.getName() + "(" + names(method.getParameterTypes()) + ")" + thrown(method));
            }
        }
        return lines;
    }

    private static String names(Class<?>[] types) {
        return Arrays.stream(types).map(Class::getSimpleName).collect(Collectors.joining(", "));
    }

    private static String thrown(Method method) {
        Class<?>[] types = method.getExceptionTypes();
        return types.length == 0 ? "" : " throws " + names(types);
    }

    private static String withoutNames(String line) {
        int end = line.indexOf(')');
        return line.substring(0, end).replaceAll("(\\w+) \\w+(?=,|$)", "$1") + line.substring(end);
    }

    private static Set<String> methodsOfDocument() {
        Set<String> lines = new TreeSet<>();
        boolean isInside = false;
        try {
            for (String line : Files.readAllLines(DOCUMENT)) {
                isInside = isInside && !line.equals("}") || line.startsWith("public final class ModHouse");
                if (isInside && line.startsWith("    public ") && !line.contains("public ModHouse(")) {
                    lines.add(withoutNames(line.strip().replace(";", "")));
                }
            }
        } catch (IOException e) {
            lines.add("the document can't be read: " + e);
        }
        return lines;
    }
}
