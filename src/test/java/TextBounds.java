import java.util.ArrayList;
import java.util.List;

/** The sentences of the description on texts, and those of promises 39 to 42. */
final class TextBounds extends Bounds {
    /** Starts of texts, and the signs that a text can go on with; a full stop is none of them. */
    private static final String[][] GOES_ON = {
        {"", "tla"}, {"t", "012345"}, {"t0", "12345*"}, {"t1", "2345*"}, {"t4", "5*"}, {"t5", "*"}, {"t02", "345*"},
        {"t0123", "45*"}, {"t01234", "5*"}, {"t012345", "*"}, {"t35", "*"}, {"t0*", "1234"}, {"t012345*", "1234"},
        {"t0*1", ";"}, {"t0*4", ";"}, {"t0*1;", "tla"}, {"t0*1;t", "012345"}, {"t0*1;t5*2;", "tla"},
        {"l", "0123456789"}, {"l0", "c"}, {"l1", "0123456789c"}, {"l9", "0123456789c"}, {"l10", "c"}, {"l99", "c"},
        {"l0c", "012345"}, {"l29c", "012345"}, {"l0c0", "s"}, {"l0c5", "s"}, {"l0c0s", "012345"}, {"l0c0s0", "p"},
        {"l0c0s5", "p"}, {"l0c0s0p", "01234567"}, {"l0c0s0p0", "r"}, {"l0c0s0p7", "r"}, {"l0c0s0p0r", "012345"},
        {"l0c0s0p0r0", ";"}, {"l0c0s0p0r5", ";"}, {"l0c0s0p0r0;", "tla"}, {"l99c5s5p7r5;l", "0123456789"},
        {"a", "01234567"}, {"a0", "@"}, {"a7", "@"}, {"a0@", "0123456789"}, {"a0@0", ";"}, {"a0@1", "0123456789;"},
        {"a0@9", "0123456789;"}, {"a0@10", ";"}, {"a0@99", ";"}, {"a0@99;", "tla"}, {"a0@0;a0@0;a7@29;a", "01234567"},
    };

    static void run() {
        input();
        texts();
        errorPositions();
        lengthAsErrorPosition();
        append();
        read();
        readInOrder();
        readEmptiesTheInput();
        readWrongTexts();
        readRefusedTeachers();
        readRefusedLessons();
        readRefusedAbsences();
        errorPosition();
        describe();
        describeAll();
    }

    private static void input() {
        about(0, "The input is a buffer of at most 70 characters.");
        SubstituteDesk desk = new SubstituteDesk();
        for (int k : upTo(70)) {
            is(k + 1, () -> desk.append('x'));
        }
        refuses(STATE, () -> desk.append('x'));
        untouched(STATE, FULL, d -> d.append('t'));
    }

    /** The error position of a text, or -1 if it is a text that is read or refused for its entries. */
    private static int errorOf(SubstituteDesk desk, String text) {
        return outcome(() -> readText(desk, text)).equals(ARGUMENT.getName()) ? desk.errorPosition() : -1;
    }

    private static void texts() {
        about(0, "A text consists of one or several entries, each followed by a semicolon");
        for (String text : new String[] {
            "t0*1;", "t5*4;", "t012345*1;", "t024*2;", "t135*3;", "l0c0s0p0r0;", "l99c5s5p7r5;", "l9c5s4p3r2;",
            "l10c1s2p3r4;", "a0@0;", "a7@99;", "a1@9;", "a2@10;", "t0*1;t0*1;", "t0*1;l0c0s0p0r0;a0@0;", "a0@0;t1*1;",
            "l30c0s0p0r0;l0c0s0p7r0;",
        }) {
            is(-1, () -> errorOf(new SubstituteDesk(), text));
            // Neither without its semicolon nor with another one or a blank behind it.
            is(text.length() - 1, () -> errorOf(new SubstituteDesk(), text.substring(0, text.length() - 1)));
            is(text.length(), () -> errorOf(new SubstituteDesk(), text + ";"));
            is(text.length(), () -> errorOf(new SubstituteDesk(), text + " "));
            is(0, () -> errorOf(new SubstituteDesk(), " " + text));
        }
        // The digits of all sets of subjects, and each way to write two digits.
        for (int subjects = 1; subjects < 64; subjects++) {
            StringBuilder digits = new StringBuilder();
            for (int k : upTo(6)) {
                digits.append((subjects >> k & 1) != 0 ? String.valueOf(k) : "");
            }
            SubstituteDesk desk = new SubstituteDesk();
            int due = subjects;
            is(1, () -> readText(desk, "t" + digits + "*2;"));
            is(due, () -> desk.teacher(0, 0));
            is(2, () -> desk.teacher(0, 1));
        }
        for (int first : upTo(6)) {
            for (int second : upTo(6)) {
                String text = "t" + first + second + "*1;";
                is(first < second ? -1 : 2, () -> errorOf(new SubstituteDesk(), text));
            }
        }
        for (int number : upTo(100)) {
            SubstituteDesk desk = deskOf(1);
            is(-1, () -> errorOf(desk, "a0@" + number + ";"));
            is(number < 30 ? 1 << number % 6 : 0, () -> desk.absent(0, number / 6 % 5));
        }
    }

    private static void errorPositions() {
        about(0, "The error position of a text that is not like this is the smallest index k");
        for (String[] pair : GOES_ON) {
            String start = pair[0];
            SubstituteDesk desk = new SubstituteDesk();
            int calls = 0;
            for (char sign = ' '; sign <= '~'; sign++) {
                boolean goesOn = pair[1].indexOf(sign) >= 0;
                String text = start + sign;
                int end = text.length();
                int due = !goesOn ? end - 1 : sign == ';' ? -1 : end;
                if (calls + end + 4 > 512) {
                    desk = new SubstituteDesk();
                    calls = 0;
                }
                SubstituteDesk asked = desk;
                is(due, () -> errorOf(asked, text));
                calls += end + 2;
            }
        }
    }

    private static void lengthAsErrorPosition() {
        // Every start of a text that is no text itself has its length as the error position.
        String whole = "t012345*4;l29c5s4p7r3;a7@10;t0*1;";
        List<Integer> ends = new ArrayList<>(List.of(10, 22, 28, 33));
        for (int length = 0; length <= whole.length(); length++) {
            String text = whole.substring(0, length);
            int due = ends.contains(length) ? -1 : length;
            is(due, () -> errorOf(new SubstituteDesk(), text));
            // The first error counts, whatever comes behind it.
            is(length, () -> errorOf(new SubstituteDesk(), text + "!;x;t0*1;"));
        }
        is(0, () -> errorOf(new SubstituteDesk(), ""));
        // What an earlier and longer input held is no part of the text.
        for (String text : new String[] {"t0*1;t0*2;", "a0@10;", "l10c0s0p0r0;", "t01*1;"}) {
            for (int length = text.length() - 1; length >= 0; length--) {
                SubstituteDesk desk = new SubstituteDesk();
                String start = text.substring(0, length);
                is(-1, () -> errorOf(desk, text));
                is(length == 5 && text.startsWith("t0*1") ? -1 : length, () -> errorOf(desk, start));
            }
        }
        // A full input that could go on.
        String full = "a0@1;".repeat(13) + "a0@10";
        is(70, () -> errorOf(new SubstituteDesk(), full));
        is(69, () -> errorOf(new SubstituteDesk(), full.substring(0, 69) + "x"));
        is(-1, () -> errorOf(new SubstituteDesk(), "a0@1;".repeat(14)));
    }

    private static void append() {
        about(39, "Appends a character to the input.");
        SubstituteDesk desk = deskOf(1);
        for (char sign : "a0@7;".toCharArray()) {
            desk.append(sign);
        }
        is(1, desk::read);
        is(2, () -> desk.absent(0, 1));
        about(39, "- character: the character, with a code from 32 to 126");
        SubstituteDesk codes = new SubstituteDesk();
        for (int code = 32; code <= 126; code++) {
            int asked = code;
            is((code - 32) % 70 + 1, () -> codes.append((char) asked));
            if (code == 32 + 69) {
                outcome(codes::read);
            }
        }
        about(39, "Returns the new length of the input.");
        SubstituteDesk lengths = new SubstituteDesk();
        is(1, () -> lengths.append('t'));
        is(2, () -> lengths.append('t'));
        refuses(ARGUMENT, lengths::read);
        is(1, () -> lengths.append('t'));
        refuses(ARGUMENT, () -> lengths.append((char) 31));
        is(2, () -> lengths.append('t'));
        is(70, () -> {
            for (int k = 3; k < 70; k++) {
                lengths.append('t');
            }
            return lengths.append('t');
        });
        about(39, "Throws IllegalArgumentException if the character code is out of range");
        for (char sign : new char[] {31, 127, 0, 9, 10, 13, 128, 160, 255, 256 + 't', Character.MAX_VALUE}) {
            untouched(ARGUMENT, RICH, d -> d.append(sign));
            untouched(ARGUMENT, BARE, d -> d.append(sign));
        }
        about(39, "Throws IllegalStateException if the input has 70 characters");
        for (char sign : new char[] {32, 126, ';'}) {
            untouched(STATE, FULL, d -> d.append(sign));
        }
        SubstituteDesk last = new SubstituteDesk();
        appendText(last, "t".repeat(69));
        is(70, () -> last.append(';'));
        refuses(STATE, () -> last.append(';'));
        refuses(STATE, () -> last.append('t'));
    }

    private static void read() {
        about(40, "Returns the number of entries.");
        is(1, () -> readText(new SubstituteDesk(), "t0*1;"));
        is(8, () -> readText(new SubstituteDesk(), "t0*1;".repeat(8)));
        SubstituteDesk desk = deskOf(2);
        StringBuilder most = new StringBuilder();
        for (int k : upTo(14)) {
            most.append('a').append(k / 10).append('@').append(k % 10).append(';');
        }
        is(70, most::length);
        is(14, () -> readText(desk, most.toString()));
        is(63, () -> desk.absent(0, 0));
        is(15, () -> desk.absent(0, 1));
        is(15, () -> desk.absent(1, 0));
        is(2, () -> readText(RICH.desk(), "5@9;"));
        about(40, "Does what the entries of the text in the input tell, in their order, or nothing of it.");
        // Both ways make the same desk: 3 changes undone one by one leave what one change leaves.
        Looks[] but = {Looks.HISTORY, Looks.INPUT, Looks.INPUT_THAT_GOES_ON};
        leavesAlike("3.0", RICH_WITHOUT_INPUT, () -> {
            SubstituteDesk d = RICH_WITHOUT_INPUT.desk();
            d.addTeacher(42, 3);
            d.addLesson(28, 4, 3, 7, 2);
            d.setAbsent(7, 28, true);
            return d;
        }, d -> readText(d, "t135*3;l28c4s3p7r2;a7@28;"), but);
        leavesAlike("1.0", RICH_WITHOUT_INPUT, () -> {
            SubstituteDesk d = RICH_WITHOUT_INPUT.desk();
            d.setAbsent(5, 9, true);
            return d;
        }, d -> readText(d, "a5@9;"));
    }

    private static void readInOrder() {
        // What an entry needs may be done by the entries before it, not by those behind it.
        is(3, () -> readText(BARE.desk(), "t0*1;l0c0s0p0r0;a0@0;"));
        refuses(STATE, () -> readText(BARE.desk(), "l0c0s0p0r0;t0*1;"));
        refuses(STATE, () -> readText(BARE.desk(), "a0@0;t0*1;"));
        refuses(STATE, () -> readText(BARE.desk(), "t0*1;t0*1;a2@0;t0*1;"));
        is(3, () -> readText(BARE.desk(), "t0*1;t0*1;a1@0;"));
        SubstituteDesk desk = BARE.desk();
        readText(desk, "t0*1;t12*2;t345*3;");
        is(1, () -> desk.teacher(0, 0));
        is(6, () -> desk.teacher(1, 0));
        is(56, () -> desk.teacher(2, 0));
        readText(desk, "l5c0s0p2r0;l4c1s1p1r1;");
        is(5, () -> desk.lesson(0, 0));
        is(4, () -> desk.lesson(1, 0));
        // The teacher is free for the lesson as soon as an absence ended the cover.
        desk.setAbsent(2, 5, true);
        desk.cover(0, 1);
        refuses(STATE, () -> readText(desk, "l5c1s0p1r1;"));
        is(2, () -> readText(desk, "a1@5;l5c1s0p1r1;"));
        is(1, () -> desk.count(6));
        is(3, () -> desk.lesson(2, 5));
        // Nothing of it: neither the first nor the last entry of a text that is refused.
        untouched(STATE, RICH_WITHOUT_INPUT, d -> readText(d, "t0*1;a5@9;l28c0s0p0r0;a5@9;"));
        untouched(STATE, RICH_WITHOUT_INPUT, d -> readText(d, "a5@9;a5@9;t0*1;"));
        untouched(STATE, RICH_WITHOUT_INPUT, d -> readText(d, "a0@9;t0*1;a5@9;"));
    }

    private static void readEmptiesTheInput() {
        about(40, "The input is empty afterwards, whatever happens.");
        for (String text : new String[] {"t0*1;", "t0*1", "a0@9;", "l30c0s0p0r0;", "x"}) {
            SubstituteDesk desk = RICH_WITHOUT_INPUT.desk();
            outcome(() -> readText(desk, text));
            is(1, () -> desk.append('t'));
            refuses(ARGUMENT, desk::read);
            is(1, desk::errorPosition);
            refuses(ARGUMENT, desk::read);
            is(0, desk::errorPosition);
            is(1, () -> desk.append('t'));
        }
        SubstituteDesk full = FULL.desk();
        refuses(STATE, full::read);
        is(1, () -> full.append('t'));
    }

    private static void readWrongTexts() {
        about(40, "Throws IllegalArgumentException if the input is not a text of this kind");
        String[] wrong = {"", ";", "t0*1", "t0*1;l", "t0*1;;", "t6*1;", "t0*5;", "l0c0s0p0r6;", "a8@0;", "a0@00;"};
        int[] due = {0, 0, 4, 6, 5, 1, 3, 9, 1, 4};
        for (int k : upTo(wrong.length)) {
            untouched(ARGUMENT, RICH_WITHOUT_INPUT, d -> readText(d, wrong[k]), Looks.KEPT);
            SubstituteDesk desk = RICH_WITHOUT_INPUT.desk();
            refuses(ARGUMENT, () -> readText(desk, wrong[k]));
            is(due[k], desk::errorPosition);
            is(1, desk::refusal);
            untouched(ARGUMENT, BARE, d -> readText(d, wrong[k]), Looks.KEPT);
        }
        // That an entry before could not be done does not matter.
        SubstituteDesk desk = RICH_WITHOUT_INPUT.desk();
        refuses(ARGUMENT, () -> readText(desk, "a0@9;l30c0s0p0r0;t0*1"));
        is(21, desk::errorPosition);
    }

    private static void readRefusedTeachers() {
        about(40, "Throws IllegalStateException if one of addTeacher, addLesson and setAbsent would throw");
        untouched(STATE, () -> deskOf(8), d -> readText(d, "t0*1;"));
        untouched(STATE, () -> deskOf(7), d -> readText(d, "t0*1;t0*1;"));
        untouched(STATE, BARE, d -> readText(d, "t0*1;".repeat(9)));
        is(1, () -> readText(deskOf(7), "t0*1;"));
        is(2, () -> readText(deskOf(6), "t0*1;t0*1;"));
    }

    private static void readRefusedLessons() {
        // A number that is out of range, and no such teacher.
        is(1, () -> readText(RICH_WITHOUT_INPUT.desk(), "l29c0s0p6r0;"));
        untouched(STATE, RICH_WITHOUT_INPUT, d -> readText(d, "l30c0s0p6r0;"));
        untouched(STATE, RICH_WITHOUT_INPUT, d -> readText(d, "l99c0s0p6r0;"));
        untouched(STATE, RICH_WITHOUT_INPUT, d -> readText(d, "l29c0s0p7r0;"));
        is(2, () -> readText(RICH_WITHOUT_INPUT.desk(), "t0*1;l29c0s0p7r0;"));
        // What collides: the class, the teacher, the room, a cover, the size.
        is(1, () -> readText(RICH_WITHOUT_INPUT.desk(), "l9c5s0p6r5;"));
        for (String text : new String[] {"l9c4s0p6r5;", "l9c5s0p3r5;", "l9c5s0p6r0;", "l9c5s0p5r5;"}) {
            untouched(STATE, RICH_WITHOUT_INPUT, d -> readText(d, text));
        }
        untouched(STATE, RICH_WITHOUT_INPUT, d -> readText(d, "l0c0s0p0r0;l0c1s1p1r0;"));
        untouched(STATE, () -> {
            SubstituteDesk small = deskOf(1);
            small.setCapacity(0, 19);
            return small;
        }, d -> readText(d, "l0c0s0p0r0;"));
        // 40 lessons.
        Recipe almost = () -> {
            SubstituteDesk d = deskOf(2);
            for (int k = 0; k < 39; k++) {
                d.addLesson(k / 2, k % 2, 0, k % 2, k % 2);
            }
            return d;
        };
        is(1, () -> readText(almost.desk(), "l29c0s0p0r0;"));
        untouched(STATE, almost, d -> readText(d, "l29c0s0p0r0;l28c0s0p0r0;"));
    }

    private static void readRefusedAbsences() {
        is(1, () -> readText(RICH_WITHOUT_INPUT.desk(), "a6@29;"));
        for (String text : new String[] {"a7@0;", "a0@30;", "a0@99;", "a0@9;", "a6@9;", "a3@0;a3@0;", "a7@0;t0*1;"}) {
            untouched(STATE, RICH_WITHOUT_INPUT, d -> readText(d, text));
        }
        is(2, () -> readText(RICH_WITHOUT_INPUT.desk(), "t0*1;a7@0;"));
        // The error position that was kept before stays.
        SubstituteDesk desk = RICH_WITHOUT_INPUT.desk();
        refuses(STATE, () -> readText(desk, "a0@30;"));
        is(3, desk::errorPosition);
    }

    private static void errorPosition() {
        about(41, "Returns the error position that was kept last.");
        onlyAnswers(3, RICH, SubstituteDesk::errorPosition);
        SubstituteDesk desk = RICH_WITHOUT_INPUT.desk();
        for (int position : new int[] {5, 0, 4, 1, 1}) {
            String text = "t0*1;x".substring(0, position) + "#";
            refuses(ARGUMENT, () -> readText(desk, text));
            is(position, desk::errorPosition);
        }
        is(1, () -> readText(desk, "t0*1;"));
        refuses(STATE, () -> readText(desk, "t0*1;"));
        desk.undo();
        desk.restore();
        desk.clear();
        is(1, desk::errorPosition);
        about(41, "Returns the error position.");
        is(0, () -> errorOf(BARE.desk(), ""));
        is(70, () -> errorOf(BARE.desk(), "t0*1;".repeat(13) + "t0123"));
        about(41, "Throws NoSuchElementException if none was kept");
        untouched(NO_ELEMENT, BARE, SubstituteDesk::errorPosition);
        untouched(NO_ELEMENT, FULL, SubstituteDesk::errorPosition);
        SubstituteDesk none = BARE.desk();
        readText(none, "t0*1;");
        refuses(STATE, () -> readText(none, "a1@0;"));
        refuses(NO_ELEMENT, none::errorPosition);
    }

    private static void describe() {
        about(42, "Returns a character of the text of a lesson, as an entry with its semicolon, or its length.");
        String[] due = {"l9c0s0p0r0;", "l9c1s1p1r1;", "l9c2s2p2r2;", "l9c3s3p3r3;", "l9c4s4p4r4;", "l10c0s0p0r0;",
            "l29c5s5p3r5;"};
        for (int lesson : upTo(7)) {
            judge(due[lesson], described(RICH.desk(), lesson));
        }
        about(42, "- index: the index of the character, from 0, or -1 for the length");
        onlyAnswers('l', RICH, d -> d.describe(6, 0));
        onlyAnswers(12, RICH, d -> d.describe(6, -1));
        onlyAnswers(11, RICH, d -> d.describe(0, -1));
        about(42, "Returns the code of the character, or the length.");
        is(';', () -> RICH.desk().describe(6, 11));
        is(';', () -> RICH.desk().describe(0, 10));
        is('0', () -> RICH.desk().describe(0, 9));
        about(42, "Throws IndexOutOfBoundsException if there is no such lesson");
        for (int index : new int[] {-1, 0, 11}) {
            outside(INDEX, RICH, 0, 6, (d, lesson) -> d.describe(lesson, index));
        }
        untouched(INDEX, BARE, d -> d.describe(0, -1));
        about(42, "Throws NoSuchElementException if index is not -1, and there is no such character");
        int[] lengths = {11, 11, 11, 11, 11, 12, 12};
        for (int lesson : new int[] {0, 5, 6}) {
            for (int index : new int[] {lengths[lesson], 13, -2, Integer.MIN_VALUE, Integer.MAX_VALUE}) {
                untouched(NO_ELEMENT, RICH, d -> d.describe(lesson, index));
            }
        }
    }

    private static void describeAll() {
        about(42, "Returns a character of the text of a lesson");
        for (int slot : upTo(30)) {
            int k = slot % 6;
            SubstituteDesk desk = deskOf(8);
            String text = "l" + slot + "c" + k + "s" + (5 - k) + "p" + slot % 8 + "r" + (k + 2) % 6 + ";";
            desk.addLesson(slot, k, 5 - k, slot % 8, (k + 2) % 6);
            judge(text, described(desk, 0));
            desk.removeLesson(0);
            is(1, () -> readText(desk, text));
            judge(text, described(desk, 0));
            desk.setRoom(0, k);
            judge(text.replaceAll("r.", "r" + k), described(desk, 0));
        }
    }
}
