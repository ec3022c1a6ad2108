import java.io.IOException;
import java.nio.file.Files;
import java.nio.file.Path;
import java.util.Set;
import java.util.TreeSet;
import java.util.regex.Matcher;
import java.util.regex.Pattern;
import java.util.stream.Collectors;

/** The rules of LANGUAGE.md, read through the compiler's own tree; first the reading itself, on other sources. */
final class LanguageTest extends Check {
    private static final Path SOURCE = Path.of("src/main/java/SubstituteDesk.java");

    /** The rules that members of a class break, these and no other ones. */
    private static final String[][] BREAKING = {
        {"1", "private final class In { }"},
        {"1", "final int seen = 0;"},
        {"2 3", "private int f() { Runnable r = () -> { }; return 0; }"},
        {"2 3", "private int f() { Runnable r = this::g; return 0; } private void g() { }"},
        {"2", "private int f() { class In { } return 0; }"},
        {"3", "private java.util.Map<Integer, Integer> m = null;"},
        {"3", "private final String[] texts = null;"},
        {"3", "private Object f() { return null; }"},
        {"4", "private int f(int a) { return Math.addExact(a, 1); }"},
        {"4", "private long f() { return System.nanoTime(); }"},
        {"4 7 12", "private int f() { return new int[0].hashCode(); }"},
        {"4", "private static final char SIGN = '\u00e9';"},
        {"5", "private static int counter = 0;"},
        {"5", "private static final int[] ROW = new int[3];"},
        {"5", "private static final int A; static { A = 1; }"},
        {"6", "private int f() { try { return 1; } finally { } }"},
        {"3 6", "private int f() { try { return 1; } catch (RuntimeException e) { return 2; } }"},
        {"6", "private int f() { assert true; return 1; }"},
        {"6", "private int f() { throw new NullPointerException(); }"},
        {"6", "private int f(String a) { throw new RuntimeException(a); }"},
        {"3 6", "private int f(RuntimeException a) { throw a; }"},
        {"6", "private SubstituteDesk() { throw new RuntimeException(); }"},
        {"6", "private int f() { synchronized (this) { return 1; } }"},
        {"7", "private int f(int[] a, int k) { return a[k]; }"},
        {"7", "private int f(int[] a, int k) { return k < a.length ? a[k] : 0; }"},
        {"7", "private int f(int[] a, int k) { return k >= 0 ? a[k] : 0; }"},
        {"7", "private int f(int[] a, int k) { return k >= 0 && k < a.length ? a[k + 1] : 0; }"},
        {"7", "private int f(int a) { return 1 / a; }"},
        {"7", "private int f(int a) { return 1 % (a + 1); }"},
        {"7", "private int f(int a) { a /= a; return a; }"},
        {"7", "private int f(int a) { return a / 0; }"},
        {"7", "private final int[] row; private SubstituteDesk(int a) { row = new int[a]; }"},
        {"7", "private int f(String a) { return ((String) (CharSequence) a).length(); }"},
        {"8", "private static int f(int a) { return f(a - 1); }"},
        {"8", "private static int f(int depth) { return f(depth - 1); }"},
        {"8", "private int f(int depth) { return depth > 4 ? 0 : f(depth - 1); }"},
        {"8", "private int f() { return g(); } private int g() { return f(); }"},
        {"9", "private int f() { while (true) { return 1; } }"},
        {"9", "private int f() { do { return 1; } while (true); }"},
        {"9", "private int f() { for (;;) { return 1; } }"},
        {"10", "private String f(String a) { return a + 1; }"},
        {"10", "private String f(String a) { a += 'b'; return a; }"},
        {"11", "private int f(int a, int b, int c, int d, int e, int g, int h, int i) { return 1; }"},
        {"11", "private int f() { return\n" + "\n".repeat(60) + "1; }"},
        {"11", "private int " + String.join(", ", java.util.Collections.nCopies(21, "f")).replaceAll("f", "f@") + ";"},
        {"11", "private static class In { }".repeat(12)},
        {"11", "private int f() { return a(); } private int a() { return b(); } private int b() { return c(); }"
                + " private int c() { return d(); } private int d() { return e(); } private int e() { return g(); }"
                + " private int g() { return h(); } private int h() { return i(); } private int i() { return 1; }"},
        {"12", "private int f() { int[] a = new int[3]; return a.length; }"},
        {"12", "private SubstituteDesk f() { return new SubstituteDesk(); }"},
    };

    /** Members that keep to the rules. */
    private static final String[] KEEPING = {
        "private final int[] row = new int[3]; private final In[] all = new In[2]; private static final class In { }",
        "private int f(int[] a, int k) { return k >= 0 && k < a.length ? a[k] : 0; }",
        "private int f(int[] a) { int s = 0; for (int k = 0; k < a.length; k++) { s += a[k]; } return s; }",
        "private int f(int a) { return a < 1 ? 0 : 1 / a; }",
        "private static final int TWO = 2; private int f(int a) { return a / TWO % 6; }",
        "private static int f(int depth) { return depth > 4 ? 0 : f(depth + 1); }",
        "private int f(char a) { if (a < 'b') { throw new IllegalStateException(\"text\"); } return Math.min(a, 9); }",
        "private int f(int a, int b, int c, int d, int e, int g, int h) { return Integer.bitCount(a); }",
    };

    /** What the tree does not tell of: annotations, and words and signs that the class has no need of. */
    private static final String[] RULED_OUT = {
        "(?m)^\\s*@", "\\bNaN\\b", "[^\\x0a\\x20-\\x7e]", "\\bprotected\\b", "\\bvar\\b", "\\binstanceof\\b",
    };

    public static void main(String[] args) throws IOException {
        for (String[] row : BREAKING) {
            breaks(row[0], inside(numbered(row[1])));
        }
        for (String members : KEEPING) {
            judge("[]", SourceRules.brokenIn(inside(members)).toString());
        }
        breaks("1", "package desk; public final class SubstituteDesk { }");
        breaks("1", "public final class SubstituteDesk { } final class Other { }");
        breaks("4", "import java.util.Random; public final class SubstituteDesk { }");
        String source = Files.readString(SOURCE);
        judge("[]", SourceRules.brokenIn(source).toString());
        for (String pattern : RULED_OUT) {
            Matcher found = Pattern.compile(pattern).matcher(source);
            judge("none", found.find() ? pattern + " in " + source.substring(found.start()).split("\n")[0] : "none");
        }
        finish();
    }

    private static String inside(String members) {
        return "public final class SubstituteDesk { " + members + " }";
    }

    /** Each sign @ is another number, and so is each name In that declares a class. */
    private static String numbered(String members) {
        String text = members;
        for (int k = 0; text.contains("@") || text.contains("class In {") && k < 20; k++) {
            text = text.replaceFirst("@", String.valueOf(k)).replaceFirst("class In \\{", "class In" + k + " {");
        }
        return text;
    }

    private static void breaks(String rules, String source) throws IOException {
        Set<Integer> broken = new TreeSet<>();
        for (String line : SourceRules.brokenIn(source)) {
            broken.add(line.startsWith("rule ") ? Integer.parseInt(line.substring(5, line.indexOf(','))) : 0);
        }
        String got = broken.stream().map(String::valueOf).collect(Collectors.joining(" "));
        judge(rules + " broken in " + source, got + " broken in " + source);
    }
}
