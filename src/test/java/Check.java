/** What the tests share: answers that are due, exceptions that are due, and an end with code 1 if one was wrong. */
abstract class Check {
    interface Call {
        double answer();
    }

    static final Class<? extends RuntimeException> INDEX = IndexOutOfBoundsException.class;
    static final Class<? extends RuntimeException> ARGUMENT = IllegalArgumentException.class;
    static final Class<? extends RuntimeException> STATE = IllegalStateException.class;
    static final Class<? extends RuntimeException> UNSUPPORTED = UnsupportedOperationException.class;
    static final Class<? extends RuntimeException> NO_ELEMENT = java.util.NoSuchElementException.class;
    static final Class<? extends RuntimeException> ARITHMETIC = ArithmeticException.class;

    static final int[] FAR = {-1, Integer.MIN_VALUE, Integer.MAX_VALUE};

    private static final java.util.Set<String> HELPERS = java.util.Set.of("Check", "Bounds", "Looks");

    private static int wrong = 0;
    private static int checked = 0;
    private static String sentence = "";

    static void is(double want, Call call) {
        judge(String.valueOf(want), outcome(call));
    }

    static void refuses(Class<? extends RuntimeException> want, Call call) {
        judge(want.getName(), outcome(call));
    }

    static String outcome(Call call) {
        try {
            return String.valueOf(call.answer());
        } catch (RuntimeException e) {
            return e.getClass().getName();
        }
    }

    static void judge(String want, String got) {
        checked++;
        if (!want.equals(got)) {
            wrong++;
            System.out.println(place() + " answered " + brief(got) + ", due is " + brief(want)
                    + (sentence.isEmpty() ? "" : ", where the document says: " + sentence));
        }
    }

    /** The sentence of the document that the next answers are checked for. */
    static void say(String text) {
        sentence = text;
    }

    static int answersChecked() {
        return checked;
    }

    /** The numbers from 0 to bound - 1. */
    static int[] upTo(int bound) {
        int[] numbers = new int[bound];
        for (int k = 0; k < bound; k++) {
            numbers[k] = k;
        }
        return numbers;
    }

    /** Appends a text to the input of a desk. */
    static void appendText(SubstituteDesk desk, String text) {
        for (char sign : text.toCharArray()) {
            desk.append(sign);
        }
    }

    /** Appends a text to the input of a desk and reads it. */
    static int readText(SubstituteDesk desk, String text) {
        appendText(desk, text);
        return desk.read();
    }

    /** The text that describe tells of a lesson, sign by sign. */
    static String described(SubstituteDesk desk, int lesson) {
        StringBuilder text = new StringBuilder();
        int length = desk.describe(lesson, -1);
        for (int k = 0; k < length; k++) {
            text.append((char) desk.describe(lesson, k));
        }
        return text.toString();
    }

    /** A desk with this number of teachers, who have all subjects and the weight 1. */
    static SubstituteDesk deskOf(int teachers) {
        SubstituteDesk desk = new SubstituteDesk();
        for (int k = 0; k < teachers; k++) {
            desk.addTeacher(63, 1);
        }
        return desk;
    }

    static void finish() {
        System.out.println(checked + " answers checked, " + wrong + " wrong");
        if (wrong != 0 || checked == 0) {
            System.exit(1);
        }
    }

    private static String brief(String text) {
        return text.length() > 300 ? text.substring(0, 300) + ".." : text;
    }

    private static String place() {
        for (StackTraceElement frame : new Throwable().getStackTrace()) {
            if (!HELPERS.contains(frame.getClassName())) {
                return frame.getFileName() + ":" + frame.getLineNumber();
            }
        }
        return "?";
    }
}
