import java.io.IOException;
import java.lang.reflect.InvocationTargetException;
import java.lang.reflect.Method;
import java.lang.reflect.Modifier;
import java.nio.charset.StandardCharsets;
import java.nio.file.Files;
import java.nio.file.Path;
import java.util.ArrayList;
import java.util.Comparator;
import java.util.List;
import java.util.Set;
import java.util.TreeSet;
import java.util.regex.Matcher;
import java.util.regex.Pattern;
import java.util.stream.Stream;

/** README.md: each call of its tables and each command has the answer that stands there, and no method is left out. */
final class ReadmeTest extends Check {
    private static final Path README = Path.of("README.md");
    private static final Path SHARED_TESTS = Path.of("../shared/tests");
    private static final Pattern ROW = Pattern.compile("(?m)^\\| `(\\w+)\\((.*?)\\)` \\| `([^`]+)` \\|");
    private static final Pattern BLOCK = Pattern.compile("(?ms)^```(\\w+)\n(.*?)^```$");

    public static void main(String[] args) throws IOException, InterruptedException, ReflectiveOperationException {
        String text = Files.readString(README);
        Set<String> shown = new TreeSet<>();
        int refused = text.indexOf("\n### What is refused");
        judge("true", String.valueOf(refused > 0));
        callsAnswer(text.substring(0, refused), shown);
        callsAnswer(text.substring(refused), shown);
        judge(methodsOfTheFace().toString(), shown.toString());
        commandsPrint(text);
        finish();
    }

    // ---- the tables

    /** Makes the calls of the tables on one new desk. */
    private static void callsAnswer(String text, Set<String> shown) throws ReflectiveOperationException {
        SubstituteDesk desk = new SubstituteDesk();
        int rows = 0;
        Matcher row = ROW.matcher(text);
        while (row.find()) {
            rows++;
            shown.add(row.group(1));
            say("`" + row.group(1) + "(" + row.group(2) + ")` in README.md");
            judge(row.group(3), answer(desk, row.group(1), row.group(2)));
        }
        say("");
        judge("all rows hold a call and its answer", rows == rowsOf(text) && rows > 20
                ? "all rows hold a call and its answer" : rows + " of " + rowsOf(text));
    }

    /** Rows that start with a sign of code, so that one that is not read as a call is missed. */
    private static int rowsOf(String text) {
        return (int) text.lines().filter(line -> line.startsWith("| `")).count();
    }

    private static String answer(SubstituteDesk desk, String name, String arguments)
            throws ReflectiveOperationException {
        for (Method method : SubstituteDesk.class.getDeclaredMethods()) {
            if (method.getName().equals(name) && Modifier.isPublic(method.getModifiers())) {
                try {
                    return String.valueOf(method.invoke(desk, values(arguments)));
                } catch (InvocationTargetException e) {
                    return e.getCause().getClass().getSimpleName();
                }
            }
        }
        return "no such method";
    }

    private static Object[] values(String arguments) {
        if (arguments.isEmpty()) {
            return new Object[0];
        }
        return Stream.of(arguments.split(", ")).map(ReadmeTest::value).toArray();
    }

    private static Object value(String written) {
        if (written.startsWith("'")) {
            return written.charAt(1);
        }
        if (written.equals("true") || written.equals("false")) {
            return Boolean.valueOf(written);
        }
        return Integer.valueOf(written);
    }

    private static Set<String> methodsOfTheFace() {
        Set<String> names = new TreeSet<>();
        for (Method method : SubstituteDesk.class.getDeclaredMethods()) {
            if (Modifier.isPublic(method.getModifiers())) {
                names.add(method.getName());
            }
        }
        return names;
    }

    // ---- the commands

    /** Runs each block of commands, in a copy of the project, and compares what it prints with the block behind it. */
    private static void commandsPrint(String text) throws IOException, InterruptedException {
        Path place = Files.createTempDirectory("substitute-desk-readme");
        try {
            Path project = place.resolve("main");
            copyAll(Path.of("src"), project.resolve("src"));
            copyAll(SHARED_TESTS, place.resolve("shared/tests"));
            int compared = 0;
            String printed = "";
            Matcher block = BLOCK.matcher(text);
            while (block.find()) {
                if (block.group(1).equals("java")) {
                    Files.writeString(project.resolve(classOf(block.group(2)) + ".java"), block.group(2));
                } else if (block.group(1).equals("text")) {
                    judge(block.group(2), printed);
                    compared++;
                } else if (isOfCi(block.group(2))) {
                    judge("true", String.valueOf(Files.isExecutable(Path.of(block.group(2).trim()))));
                } else {
                    printed = run(block.group(2), project);
                }
            }
            judge("3", String.valueOf(compared));
        } finally {
            removeAll(place);
        }
    }

    /** .ci/run runs this test; it cannot be run by it. */
    private static boolean isOfCi(String commands) {
        return commands.equals(".ci/run\n");
    }

    private static String classOf(String source) {
        Matcher name = Pattern.compile("public final class (\\w+)").matcher(source);
        return name.find() ? name.group(1) : "None";
    }

    private static String run(String commands, Path folder) throws IOException, InterruptedException {
        Process process = new ProcessBuilder("sh", "-e", "-c", commands).directory(folder.toFile())
                .redirectError(ProcessBuilder.Redirect.INHERIT).start();
        String printed = new String(process.getInputStream().readAllBytes(), StandardCharsets.UTF_8);
        judge("0", String.valueOf(process.waitFor()));
        return printed;
    }

    private static void copyAll(Path from, Path to) throws IOException {
        for (Path path : allIn(from)) {
            Path copy = to.resolve(from.relativize(path).toString());
            if (Files.isDirectory(path)) {
                Files.createDirectories(copy);
            } else {
                Files.write(copy, Files.readAllBytes(path));
            }
        }
    }

    private static void removeAll(Path folder) throws IOException {
        List<Path> paths = allIn(folder);
        paths.sort(Comparator.reverseOrder());
        for (Path path : paths) {
            Files.delete(path);
        }
    }

    private static List<Path> allIn(Path folder) throws IOException {
        try (Stream<Path> paths = Files.walk(folder)) {
            return new ArrayList<>(paths.toList());
        }
    }
}
