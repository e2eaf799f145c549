import java.lang.reflect.Constructor;
import java.lang.reflect.Field;
import java.lang.reflect.Method;
import java.lang.reflect.Modifier;
import java.nio.charset.StandardCharsets;
import java.nio.file.Files;
import java.nio.file.Path;
import java.util.ArrayList;
import java.util.List;
import java.util.Set;
import java.util.TreeSet;

/** The public face is the document's, and nothing else can be seen from outside (rule 1 of the language). */
public final class FaceTest {
    private static final Path DOCUMENT = Path.of("../shared/DOC.md");
    private static final Checks CHECKS = new Checks("FaceTest");

    public static void main(String[] args) throws Exception {
        CHECKS.due("the class", "public final", Modifier.toString(PowerTables.class.getModifiers()));
        CHECKS.due("what it extends", Object.class, PowerTables.class.getSuperclass());
        CHECKS.due("what it implements", 0, PowerTables.class.getInterfaces().length);
        List<String> wanted = facesOfDocument();
        CHECKS.due("members in the document", 27, wanted.size());
        CHECKS.due("the face", String.join("\n", new TreeSet<>(wanted)), String.join("\n", faceOfClass()));
        classesInside();
        CHECKS.end();
    }

    /** The lines of the document's Java block, but for its first and last one. */
    private static List<String> facesOfDocument() throws Exception {
        List<String> members = new ArrayList<>();
        boolean isInside = false;
        for (String line : Files.readAllLines(DOCUMENT, StandardCharsets.UTF_8)) {
            if (line.startsWith("```")) {
                isInside = line.equals("```java");
            } else if (isInside && line.startsWith("    ")) {
                String[] parts = line.trim().replace(";", "").split("\\)", 2);
                members.add(parts.length < 2 ? parts[0] : withoutNames(parts[0]) + ")" + parts[1]);
            }
        }
        return members;
    }

    /** Drops the names of the parameters, which a class does not keep. */
    private static String withoutNames(String method) {
        return method.replaceAll("(\\w) \\w+(?=,|$)", "$1");
    }

    private static Set<String> faceOfClass() throws Exception {
        Set<String> members = new TreeSet<>();
        Set<String> publicNames = new TreeSet<>();
        for (Field field : PowerTables.class.getDeclaredFields()) {
            if (!Modifier.isPrivate(field.getModifiers())) {
                members.add(Modifier.toString(field.getModifiers()) + " " + field.getType().getSimpleName() + " "
                    + field.getName() + " = " + field.get(null));
            }
        }
        for (Constructor<?> constructor : PowerTables.class.getDeclaredConstructors()) {
            if (!Modifier.isPrivate(constructor.getModifiers())) {
                members.add(Modifier.toString(constructor.getModifiers()) + " PowerTables"
                    + told(constructor.getParameterTypes(), constructor.getExceptionTypes()));
            }
        }
        for (Method method : PowerTables.class.getDeclaredMethods()) {
            if (!Modifier.isPrivate(method.getModifiers())) {
                publicNames.add(method.getName());
                members.add(Modifier.toString(method.getModifiers()) + " " + method.getReturnType().getSimpleName()
                    + " " + method.getName() + told(method.getParameterTypes(), method.getExceptionTypes()));
            }
        }
        noNameTwice(publicNames);
        return members;
    }

    private static void noNameTwice(Set<String> publicNames) {
        List<Method> methods = new ArrayList<>(List.of(PowerTables.class.getDeclaredMethods()));
        for (Class<?> inside : PowerTables.class.getDeclaredClasses()) {
            methods.addAll(List.of(inside.getDeclaredMethods()));
        }
        for (Method method : methods) {
            CHECKS.isTrue("no hidden method is named " + method.getName(),
                Modifier.isPublic(method.getModifiers()) || !publicNames.contains(method.getName()));
        }
    }

    private static String told(Class<?>[] parameters, Class<?>[] exceptions) {
        String thrown = names(exceptions);
        return "(" + names(parameters) + ")" + (thrown.isEmpty() ? "" : " throws " + thrown);
    }

    private static String names(Class<?>[] classes) {
        List<String> names = new ArrayList<>();
        for (Class<?> each : classes) {
            names.add(each.getSimpleName());
        }
        return String.join(", ", names);
    }

    private static void classesInside() {
        for (Class<?> inside : PowerTables.class.getDeclaredClasses()) {
            int modifiers = inside.getModifiers();
            CHECKS.isTrue(inside + " is static", Modifier.isStatic(modifiers));
            CHECKS.isTrue(inside + " is hidden", !Modifier.isPublic(modifiers) && !Modifier.isProtected(modifiers));
        }
    }
}
