import java.io.IOException;
import java.nio.file.Files;
import java.nio.file.Path;
import java.util.ArrayList;
import java.util.List;

/** The sentences of the document up to '## Not promised', and how many answers were checked for each. */
final class Sentences {
    private static final Path DOC = Path.of("../shared/DOC.md");

    /** Headings, and what says nothing that an answer could break. */
    private static final String[] FREE = {
        "Week.", "Teachers.", "Lessons.", "Covers.", "Splitting.", "What ends.", "Suggestions.", "Plans.", "Text.",
        "History.", "Exceptions.", "A desk for substitutes in a school:", "The constructor and the methods follow,",
    };

    static final class Sentence {
        final int promise;
        final String text;
        int answers = 0;

        Sentence(int promise, String text) {
            this.promise = promise;
            this.text = text;
        }

        @Override
        public String toString() {
            return (promise == 0 ? "description" : "promise " + promise) + ": " + text;
        }
    }

    private final List<Sentence> all = new ArrayList<>();

    Sentences() throws IOException {
        for (String section : Files.readString(DOC).split("\n## ")) {
            int end = section.indexOf('\n');
            int promise = promiseOf(section.substring(0, Math.max(end, 0)));
            if (promise >= 0) {
                takeAll(promise, section.substring(end + 1));
            }
        }
    }

    /** The promise of a section, 0 for the description, or -1 for what promises nothing. */
    private static int promiseOf(String head) {
        if (head.startsWith("Promise ")) {
            return Integer.parseInt(head.substring(8, head.indexOf(':')));
        }
        return head.equals("Description") || head.equals("What it is") ? 0 : -1;
    }

    private void takeAll(int promise, String section) {
        for (String part : section.split("\n\\s*\n|\n(?=- )")) {
            String line = part.trim().replaceAll("\\s+", " ");
            boolean isSignature = line.matches("`[^`]*`");
            for (String text : line.replace("`", "").split("(?<=\\.) (?=[A-Z])")) {
                if (!text.isEmpty() && !isSignature && !text.startsWith("----")) {
                    all.add(new Sentence(promise, text));
                }
            }
        }
    }

    /** The sentence that starts so; if the document says the same twice, the first one that has no answer yet. */
    Sentence find(int promise, String start) {
        Sentence found = null;
        for (Sentence sentence : all) {
            if (sentence.promise == promise && sentence.text.startsWith(start)) {
                if (found != null && !found.text.equals(sentence.text)) {
                    throw new AssertionError("two sentences of promise " + promise + " start with: " + start);
                }
                found = found == null || found.answers > 0 ? sentence : found;
            }
        }
        if (found == null) {
            throw new AssertionError("no sentence of promise " + promise + " starts with: " + start);
        }
        return found;
    }

    List<Sentence> withoutAnswers() {
        List<Sentence> left = new ArrayList<>();
        for (Sentence sentence : all) {
            if (sentence.answers == 0 && !isFree(sentence.text)) {
                left.add(sentence);
            }
        }
        return left;
    }

    int size() {
        return all.size();
    }

    /** A row on a parameter that names neither a number nor a case only tells what the parameter is. */
    private static boolean isFree(String text) {
        if (text.startsWith("- ") && !text.matches(".*\\d.*|.*\\btrue\\b.*")) {
            return true;
        }
        for (String start : FREE) {
            if (text.startsWith(start)) {
                return true;
            }
        }
        return false;
    }
}
