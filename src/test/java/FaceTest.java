import java.lang.reflect.Constructor;
import java.lang.reflect.Executable;
import java.lang.reflect.Field;
import java.lang.reflect.Method;
import java.lang.reflect.Modifier;
import java.nio.file.Files;
import java.nio.file.Path;
import java.util.ArrayList;
import java.util.Arrays;
import java.util.Collections;
import java.util.List;
import java.util.stream.Collectors;

/** The class has the public face that the document gives, and nothing else that can be seen from outside. */
public final class FaceTest {
    private static final Checks check = new Checks();

    public static void main(String[] args) throws Exception {
        List<String> due = faceOfTheDocument();
        List<String> has = new ArrayList<>();
        for (Constructor<?> constructor : Globewright.class.getDeclaredConstructors()) {
            has.add(told(constructor, "Globewright"));
        }
        for (Method method : Globewright.class.getDeclaredMethods()) {
            if (Modifier.isPublic(method.getModifiers())) {
                has.add(told(method, method.getReturnType().getSimpleName() + " " + method.getName()));
            }
        }
        Collections.sort(due);
        Collections.sort(has);
        check.equal(due.size(), 50);
        check.equal(has.size(), due.size());
        for (String line : due) {
            if (!has.contains(line)) {
                System.out.println("missing: " + line);
            }
            check.yes(has.contains(line));
        }
        nothingElseIsSeen();
        check.end();
    }

    /** The lines of the document's Java block, without names of parameters. */
    private static List<String> faceOfTheDocument() throws Exception {
        List<String> lines = new ArrayList<>();
        for (String line : Files.readAllLines(Path.of("../shared/DOC.md"))) {
            if (line.startsWith("    public ")) {
                String text = line.trim().substring("public ".length()).replace(";", "");
                lines.add(text.replaceAll("(boolean|char|int|long) [a-zA-Z]+(?=[,)])", "$1"));
            }
        }
        return lines;
    }

    private static String told(Executable member, String name) {
        String parameters = names(member.getParameterTypes());
        String exceptions = names(member.getExceptionTypes());
        return name + "(" + parameters + ")" + (exceptions.isEmpty() ? "" : " throws " + exceptions);
    }

    private static String names(Class<?>[] types) {
        return Arrays.stream(types).map(Class::getSimpleName).collect(Collectors.joining(", "));
    }

    private static void nothingElseIsSeen() {
        check.yes(Modifier.isFinal(Globewright.class.getModifiers()));
        check.yes(Modifier.isPublic(Globewright.class.getModifiers()));
        List<String> faceNames = new ArrayList<>();
        for (Method method : Globewright.class.getDeclaredMethods()) {
            int modifiers = method.getModifiers();
            check.yes(Modifier.isPublic(modifiers) || Modifier.isPrivate(modifiers));
            check.no(Modifier.isPublic(modifiers) && Modifier.isStatic(modifiers));
            if (Modifier.isPublic(modifiers)) {
                faceNames.add(method.getName());
            }
        }
        for (Field field : Globewright.class.getDeclaredFields()) {
            check.yes(Modifier.isPrivate(field.getModifiers()));
            check.yes(!Modifier.isStatic(field.getModifiers()) || Modifier.isFinal(field.getModifiers()));
        }
        for (Method method : Globewright.class.getDeclaredMethods()) {
            check.no(Modifier.isPrivate(method.getModifiers()) && faceNames.contains(method.getName()));
        }
        for (Class<?> inside : Globewright.class.getDeclaredClasses()) {
            check.yes(Modifier.isStatic(inside.getModifiers()));
            for (Method method : inside.getDeclaredMethods()) {
                check.no(faceNames.contains(method.getName()));
            }
        }
    }
}
