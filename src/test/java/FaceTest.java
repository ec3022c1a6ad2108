import java.io.IOException;
import java.lang.reflect.Constructor;
import java.lang.reflect.Field;
import java.lang.reflect.Method;
import java.lang.reflect.Modifier;
import java.nio.file.Files;
import java.nio.file.Path;
import java.util.Arrays;
import java.util.Set;
import java.util.TreeSet;
import java.util.regex.Matcher;
import java.util.regex.Pattern;

/** The public face as the document has it, and nothing else that can be seen. */
final class FaceTest extends Check {
    private static final Path DOC = Path.of("../shared/DOC.md");

    public static void main(String[] args) throws IOException {
        faceIsThatOfTheDocument();
        nothingElseCanBeSeen();
        finish();
    }

    private static void faceIsThatOfTheDocument() throws IOException {
        String text = Files.readString(DOC);
        Set<String> due = new TreeSet<>();
        Matcher line = Pattern.compile("(?m)^    public (\\w+) (\\w+)\\((.*)\\)(?: throws (.*))?;$").matcher(text);
        while (line.find()) {
            due.add(line.group(1) + " " + line.group(2) + "(" + line.group(3).replaceAll(" \\w+(,|$)", "$1") + ") "
                    + (line.group(4) == null ? "" : line.group(4)));
        }
        Set<String> got = new TreeSet<>();
        for (Method method : SubstituteDesk.class.getDeclaredMethods()) {
            if (Modifier.isPublic(method.getModifiers())) {
                got.add(method.getReturnType().getSimpleName() + " " + method.getName() + "("
                        + names(method.getParameterTypes()) + ") " + names(method.getExceptionTypes()));
            }
        }
        judge("44", String.valueOf(due.size()));
        judge(due.toString(), got.toString());
    }

    private static String names(Class<?>[] types) {
        return String.join(", ", Arrays.stream(types).map(Class::getSimpleName).toList());
    }

    private static void nothingElseCanBeSeen() {
        judge("true", String.valueOf(Modifier.isPublic(SubstituteDesk.class.getModifiers())
                && Modifier.isFinal(SubstituteDesk.class.getModifiers())));
        Constructor<?>[] constructors = SubstituteDesk.class.getDeclaredConstructors();
        judge("1", String.valueOf(constructors.length));
        judge("public SubstituteDesk()", constructors[0].toString());
        Set<String> faces = new TreeSet<>();
        for (Method method : SubstituteDesk.class.getDeclaredMethods()) {
            judge("true", String.valueOf(isSeenRightly(method.getModifiers())));
            if (Modifier.isPublic(method.getModifiers())) {
                faces.add(method.getName());
            }
        }
        for (Method method : SubstituteDesk.class.getDeclaredMethods()) {
            judge("true", String.valueOf(Modifier.isPublic(method.getModifiers())
                    || !faces.contains(method.getName())));
        }
        for (Field field : SubstituteDesk.class.getDeclaredFields()) {
            judge("true", String.valueOf(Modifier.isPrivate(field.getModifiers())));
            judge("true", String.valueOf(!Modifier.isStatic(field.getModifiers())
                    || Modifier.isFinal(field.getModifiers())));
        }
        for (Class<?> inside : SubstituteDesk.class.getDeclaredClasses()) {
            judge("true", String.valueOf(Modifier.isStatic(inside.getModifiers())));
            for (Method method : inside.getDeclaredMethods()) {
                judge("false", String.valueOf(faces.contains(method.getName())));
            }
        }
    }

    private static boolean isSeenRightly(int modifiers) {
        return Modifier.isPublic(modifiers) || Modifier.isPrivate(modifiers);
    }
}
