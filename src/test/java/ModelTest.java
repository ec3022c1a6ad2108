import java.lang.reflect.InvocationTargetException;
import java.lang.reflect.Method;

/** All promises: many runs of calls, each answered by the desk and by the model of the tests, must answer alike. */
final class ModelTest extends Check {
    private static final int RUNS = 3000;
    private static final int CALLS = 512;

    /** A method, how often it is called, and the kinds of its arguments: the letters of number(). */
    private static final String[] METHODS = {
        "addTeacher 3 SW", "setLimit 4 TI", "setSize 4 CZ", "setCapacity 3 RP", "addLesson 30 OCJTR",
        "removeLesson 2 L", "setRoom 5 LR", "count 6 H", "lesson 12 LH", "teacher 12 TH", "lessonOf 3 OC",
        "setAbsent 4 TOB", "turnAbsence 16 -", "absent 3 TD", "free 4 TD", "freeRooms 3 O", "openOn 2 D",
        "open 5 DN", "why 8 LT", "points 3 LT", "suggestion 8 L", "cover 8 LT", "openCover 16 -", "uncover 5 L",
        "split 6 LLL", "openSplit 24 -", "unsplit 4 L", "host 6 LB", "refusal 2 -", "coverDay 2 D", "spread 4 -",
        "extreme 4 B", "plannedSpread 4 D", "planned 6 DN", "carryOut 2 D", "plans 5 D", "averagePoints 3 A",
        "audit 3 -", "lost 3 C", "append 1 K", "read 1 -", "errorPosition 1 -", "describe 4 LX", "undo 4 -",
        "save 1 -", "restore 1 -", "text 1 -", "clear 0 -",
    };

    private final SubstituteDesk desk = new SubstituteDesk();
    private final DeskModel model = new DeskModel();
    private long seed;
    private final int[] hotSlots = new int[4];
    private StringBuilder told = new StringBuilder();

    private ModelTest(long seed) {
        this.seed = seed;
        for (int k = 0; k < hotSlots.length; k++) {
            hotSlots[k] = k == 0 ? under(30) : hotSlots[0] / 6 * 6 + under(6);
        }
    }

    public static void main(String[] args) throws ReflectiveOperationException {
        for (int run = 0; run < RUNS; run++) {
            if (!new ModelTest(run * 7919L + 1).isAlike(run)) {
                break;
            }
        }
        finish();
    }

    private boolean isAlike(int run) throws ReflectiveOperationException {
        int weights = 0;
        for (String method : METHODS) {
            weights += Integer.parseInt(method.split(" ")[1]);
        }
        for (int calls = 0; calls < CALLS;) {
            int choice = calls == 256 && run % 8 == 0 ? weights : under(weights);
            String chosen = METHODS[METHODS.length - 1];
            for (int k = METHODS.length - 1; k >= 0; k--) {
                choice -= Integer.parseInt(METHODS[k].split(" ")[1]);
                chosen = choice < 0 && chosen.startsWith("clear") ? METHODS[k] : chosen;
            }
            if (run % 4 > 0 && calls < 14) {
                chosen = calls < 8 ? "addTeacher 1 SW" : "setCapacity 1 RP";
            }
            int made = make(chosen, Math.min(70, CALLS - calls));
            if (made < 0) {
                System.out.println("run " + run + ":" + told);
                return false;
            }
            calls += made;
        }
        return true;
    }

    /** Makes the call, or the calls of a text; the number of them, or -1 if answers differ. */
    private int make(String method, int most) throws ReflectiveOperationException {
        String[] parts = method.split(" ");
        if (parts[0].equals("text")) {
            return makeText(most);
        }
        if (parts[0].equals("openSplit") || parts[0].equals("openCover")) {
            return makeForOpen(parts[0].equals("openSplit"));
        }
        if (parts[0].equals("turnAbsence")) {
            return turnAbsence();
        }
        String kinds = parts[2].equals("-") ? "" : parts[2];
        Object[] values = new Object[kinds.length()];
        for (int k = 0; k < values.length; k++) {
            values[k] = value(kinds.charAt(k));
        }
        return isSame(parts[0], values) ? 1 : -1;
    }

    private int makeText(int most) throws ReflectiveOperationException {
        String text = text();
        int calls = 0;
        for (int k = 0; k < text.length() && calls + 1 < most; k++) {
            if (!isSame("append", new Object[] {text.charAt(k)})) {
                return -1;
            }
            calls++;
        }
        return isSame("read", new Object[0]) ? calls + 1 : -1;
    }

    /** Splits an open lesson between two others of its slot, or lets somebody cover it. */
    private int makeForOpen(boolean isSplit) throws ReflectiveOperationException {
        int[] open = lessonsWith(5, 3);
        if (open.length == 0) {
            return turnAbsence();
        }
        int lesson = open[under(open.length)];
        if (!isSplit) {
            return isSame("cover", new Object[] {lesson, under(8)}) ? 1 : -1;
        }
        int[] near = lessonsWith(0, model.lesson(lesson, 0));
        int[] hosts = java.util.Arrays.stream(near).filter(l -> model.lesson(l, 5) < 2).toArray();
        near = hosts.length > 1 && under(4) > 0 ? hosts : near;
        int first = near[under(near.length)];
        int second = near[under(near.length)];
        return isSame("split", new Object[] {lesson, first, second}) ? 1 : -1;
    }

    /** Makes a teacher absent in a slot where there is a lesson of it or a cover by it, or lets it come back. */
    private int turnAbsence() throws ReflectiveOperationException {
        if (model.count(1) == 0) {
            return make("addLesson 1 OCJTR", 1);
        }
        int lesson = under(model.count(1));
        int slot = model.lesson(lesson, 0);
        int teacher = model.lesson(lesson, under(3) == 0 ? 6 : 3);
        boolean isBack = teacher >= 0 && (model.absent(teacher, slot / 6) >> slot % 6 & 1) == 1;
        return isSame("setAbsent", new Object[] {teacher, slot, !isBack}) ? 1 : -1;
    }

    private int[] lessonsWith(int what, int number) {
        return java.util.stream.IntStream.range(0, model.count(1)).filter(l -> model.lesson(l, what) == number)
                .toArray();
    }

    private boolean isSame(String name, Object[] values) throws ReflectiveOperationException {
        String want = answer(model, name, values);
        String got = answer(desk, name, values);
        told.append('\n').append(name).append(java.util.Arrays.toString(values)).append(" = ").append(got);
        judge(want, got);
        return want.equals(got);
    }

    private static String answer(Object object, String name, Object[] values) throws ReflectiveOperationException {
        for (Method method : object.getClass().getDeclaredMethods()) {
            if (method.getName().equals(name) && java.lang.reflect.Modifier.isPublic(method.getModifiers())) {
                try {
                    return String.valueOf(method.invoke(object, values));
                } catch (InvocationTargetException e) {
                    return e.getCause().getClass().getName();
                }
            }
        }
        throw new NoSuchMethodException(name);
    }

    // ---- arguments

    private int under(int bound) {
        seed = seed * 6364136223846793005L + 1442695040888963407L;
        return (int) Math.floorMod(seed >>> 33, (long) bound);
    }

    private Object value(char kind) {
        if (kind == 'B') {
            return under(2) == 0;
        }
        if (kind == 'K') {
            return under(40) == 0 ? (char) (under(2) * 127) : "tla0123@*;csrp5679 x".charAt(under(20));
        }
        if (under(60) == 0) {
            int[] far = {-1, Integer.MIN_VALUE, Integer.MAX_VALUE, 64, 8, 40, 30, 6, 5, 0};
            return far[under(far.length)];
        }
        return number(kind);
    }

    private int number(char kind) {
        switch (kind) {
            case 'S':
                return 1 + under(63);
            case 'W':
                return 1 + under(4);
            case 'T':
                return under(Math.max(1, model.count(0)));
            case 'L':
                int[] alike = lessonsWith(5, 1 + under(3));
                return under(2) == 0 && alike.length > 0 ? alike[under(alike.length)]
                        : under(Math.max(1, model.count(1)));
            case 'I':
                return under(5) == 0 ? 0 : 1 + under(3);
            case 'Z':
                return under(2) == 0 ? 1 + under(12) : 1 + under(30);
            case 'P':
                return under(4) > 0 ? 60 : 10 + under(51);
            case 'O':
                return under(8) == 0 ? under(30) : hotSlots[under(hotSlots.length)];
            case 'C':
            case 'R':
            case 'J':
                return under(6);
            case 'D':
                return under(3) == 0 ? under(5) : hotSlots[under(hotSlots.length)] / 6;
            case 'N':
                return under(6) - 1;
            case 'X':
                return under(16) - 2;
            case 'H':
                return under(8);
            default:
                return under(1 << model.count(0));
        }
    }

    private String text() {
        StringBuilder text = new StringBuilder();
        for (int entries = 1 + under(3); entries > 0; entries--) {
            text.append(entry());
        }
        for (int changes = under(4) - 1; changes > 0; changes--) {
            char sign = (char) value('K').hashCode();
            if (sign >= 32 && sign < 127) {
                text.setCharAt(under(text.length()), sign);
            }
        }
        if (under(6) == 0) {
            text.setLength(under(text.length()));
        }
        return text.toString();
    }

    private String entry() {
        switch (under(4)) {
            case 0:
                StringBuilder digits = new StringBuilder();
                int subjects = 1 + under(63);
                for (int k = 0; k < 6; k++) {
                    digits.append((subjects >> k & 1) != 0 ? String.valueOf(k) : "");
                }
                return "t" + digits + "*" + (1 + under(4)) + ";";
            case 1:
                return "a" + number('T') + "@" + number('O') + ";";
            default:
                return "l" + number('O') + "c" + under(6) + "s" + under(6) + "p" + number('T') + "r" + under(6) + ";";
        }
    }
}
