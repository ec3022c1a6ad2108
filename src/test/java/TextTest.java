/** Promises 39 to 42: texts. */
final class TextTest extends Check {
    public static void main(String[] args) {
        append();
        fullInput();
        readTeachers();
        readLessons();
        readAbsences();
        readAllOrNothing();
        readRefusesEntries();
        wrongTexts();
        errorPosition();
        describe();
        describedTextsCanBeRead();
        finish();
    }

    private static void append() {
        SubstituteDesk desk = new SubstituteDesk();
        is(1, () -> desk.append(' '));
        is(2, () -> desk.append('~'));
        refuses(ARGUMENT, () -> desk.append((char) 31));
        refuses(ARGUMENT, () -> desk.append((char) 127));
        refuses(ARGUMENT, () -> desk.append((char) 0));
        refuses(ARGUMENT, () -> desk.append(Character.MAX_VALUE));
        is(3, () -> desk.append('t'));
        refuses(ARGUMENT, desk::read);
        is(0, desk::errorPosition);
        is(1, () -> desk.append('t'));
    }

    private static void fullInput() {
        SubstituteDesk desk = new SubstituteDesk();
        for (int k = 1; k <= 70; k++) {
            char sign = "t0*1;".charAt((k - 1) % 5);
            is(k, () -> desk.append(sign));
        }
        refuses(STATE, () -> desk.append('t'));
        refuses(ARGUMENT, () -> desk.append((char) 31));
        // 14 entries are a text, but 14 teachers are too many.
        refuses(STATE, desk::read);
        is(0, () -> desk.count(0));
        is(1, () -> desk.append('t'));
        refuses(ARGUMENT, desk::read);
        for (int k = 1; k <= 70; k++) {
            char sign = "t012345*1;".charAt((k - 1) % 10);
            is(k, () -> desk.append(sign));
        }
        is(7, desk::read);
        is(7, () -> desk.count(0));
        refuses(ARGUMENT, () -> readText(desk, "a0@0;".repeat(10) + "a0@10;".repeat(3) + "a0"));
        is(70, desk::errorPosition);
    }

    private static void readTeachers() {
        SubstituteDesk desk = new SubstituteDesk();
        is(1, () -> readText(desk, "t0*1;"));
        is(2, () -> readText(desk, "t012345*4;t135*2;"));
        is(1, () -> desk.teacher(0, 0));
        is(63, () -> desk.teacher(1, 0));
        is(42, () -> desk.teacher(2, 0));
        is(1, () -> desk.teacher(0, 1));
        is(4, () -> desk.teacher(1, 1));
        is(2, () -> desk.teacher(2, 1));
        is(2, () -> desk.teacher(2, 2));
        is(1, desk::undo);
        is(1, () -> desk.count(0));
    }

    private static void readLessons() {
        SubstituteDesk desk = deskOf(8);
        is(2, () -> readText(desk, "l0c0s0p0r0;l29c5s4p7r3;"));
        int[] due = {29, 5, 4, 7, 3, 0, 7, 20};
        for (int what = 0; what < 8; what++) {
            int asked = what;
            is(due[what], () -> desk.lesson(1, asked));
        }
        is(0, () -> desk.lesson(0, 0));
        is(1, () -> readText(desk, "l9c1s0p1r1;"));
        is(9, () -> desk.lesson(2, 0));
        is(1, () -> readText(desk, "l9c0s5p7r5;"));
        is(5, () -> desk.lesson(3, 2));
        is(7, () -> desk.lesson(3, 3));
        is(1, () -> readText(desk, "l10c1s0p1r1;"));
        is(10, () -> desk.lesson(4, 0));
        is(1, () -> readText(desk, "a7@0;"));
        is(1, () -> desk.absent(7, 0));
    }

    private static void readAbsences() {
        SubstituteDesk desk = deskOf(3);
        desk.addLesson(7, 0, 0, 0, 0);
        desk.setAbsent(0, 7, true);
        desk.cover(0, 1);
        is(2, () -> readText(desk, "a1@7;a2@29;"));
        is(2, () -> desk.absent(1, 1));
        is(32, () -> desk.absent(2, 4));
        is(3, () -> desk.lesson(0, 5));
        is(1, () -> desk.count(6));
        is(0, () -> desk.teacher(1, 3));
        desk.undo();
        is(1, () -> desk.lesson(0, 5));
        is(0, () -> desk.count(6));
    }

    private static void readAllOrNothing() {
        SubstituteDesk desk = new SubstituteDesk();
        is(4, () -> readText(desk, "t0*1;t1*2;l3c0s0p1r0;a1@3;"));
        is(3, () -> desk.lesson(0, 5));
        desk.cover(0, 0);
        refuses(STATE, () -> readText(desk, "a0@3;t5*1;l4c0s0p2r0;a2@4;l4c0s0p0r1;"));
        is(2, () -> desk.count(0));
        is(1, () -> desk.count(1));
        is(0, () -> desk.count(6));
        is(0, () -> desk.lesson(0, 6));
        is(0, () -> desk.absent(0, 0));
        is(3, () -> desk.teacher(0, 3));
        refuses(NO_ELEMENT, desk::errorPosition);
        // The refused text is no change: two are remembered, the first text and the cover.
        is(1, desk::undo);
        is(0, desk::undo);
        is(0, () -> desk.count(0));
    }

    private static void readRefusesEntries() {
        SubstituteDesk desk = new SubstituteDesk();
        refuses(STATE, () -> readText(desk, "l0c0s0p0r0;"));
        refuses(STATE, () -> readText(desk, "a0@0;"));
        is(1, () -> readText(desk, "t0*1;"));
        is(1, () -> readText(desk, "a0@0;"));
        refuses(STATE, () -> readText(desk, "a0@0;"));
        refuses(STATE, () -> readText(desk, "a0@1;a0@1;"));
        refuses(STATE, () -> readText(desk, "a0@30;"));
        refuses(STATE, () -> readText(desk, "a0@99;"));
        refuses(STATE, () -> readText(desk, "a1@1;"));
        refuses(STATE, () -> readText(desk, "l30c0s0p0r0;"));
        refuses(STATE, () -> readText(desk, "l0c0s0p1r0;"));
        is(1, () -> readText(desk, "l0c0s0p0r0;"));
        refuses(STATE, () -> readText(desk, "l0c1s0p0r1;"));
        is(1, () -> desk.count(1));
        is(1, () -> desk.absent(0, 0));
        is(7, () -> readText(desk, "t0*1;t0*1;t0*1;t0*1;t0*1;t0*1;t0*1;"));
        refuses(STATE, () -> readText(desk, "t0*1;"));
        is(8, () -> desk.count(0));
    }

    private static void wrongTexts() {
        Object[][] wrong = {
            {"", 0}, {";", 0}, {"x", 0}, {" t0*1;", 0}, {"T0*1;", 0}, {"0", 0},
            {"t", 1}, {"t*1;", 1}, {"t6*1;", 1}, {"t;", 1}, {"t0", 2}, {"t00*1;", 2}, {"t10*1;", 2},
            {"t5", 2}, {"t55", 2}, {"t56", 2}, {"t05*", 4}, {"t0*0;", 3}, {"t0*5;", 3}, {"t0*;", 3},
            {"t0*1", 4}, {"t0*11;", 4}, {"t0*1:", 4}, {"t012345*", 8}, {"t012345 ", 7}, {"t0121", 4},
            {"t0*1;;", 5}, {"t0*1;t", 6}, {"t0*1;x", 5}, {"t0*1;\u007e", 5},
            {"l", 1}, {"lc", 1}, {"l0", 2}, {"l00c", 2}, {"l05c", 2}, {"l0;", 2}, {"l1", 2}, {"l100", 3},
            {"l99c", 4}, {"l99c6", 4}, {"l0c0c", 4}, {"l0c0s", 5}, {"l0c0s6", 5}, {"l0c0s0", 6},
            {"l0c0s0r", 6}, {"l0c0s0p8", 7}, {"l0c0s0p7", 8}, {"l0c0s0p7s", 8}, {"l0c0s0p7r6", 9},
            {"l0c0s0p7r", 9}, {"l0c0s0p0r0", 10}, {"l0c0s0p0r0 ", 10}, {"l10c0s0p0r0", 11}, {"l0c-", 3},
            {"a", 1}, {"a8", 1}, {"a@", 1}, {"a0", 2}, {"a00", 2}, {"a0@", 3}, {"a0@;", 3}, {"a0@0", 4},
            {"a0@00;", 4}, {"a0@01", 4}, {"a0@9", 4}, {"a0@99", 5}, {"a0@999", 5}, {"a0@1c", 4}, {"a0@1;a", 6},
            {"l;", 1}, {"l0c;", 3}, {"l0c0;", 4}, {"l0c0s;", 5}, {"l0c0s0;", 6}, {"l0c0s0p;", 7}, {"l0c0s0p0;", 8},
            {"l0c0s0p0r;", 9}, {"l0c5s5p7r5", 10}, {"a;", 1}, {"a0;", 2}, {"a7@;", 3}, {"t0;", 2}, {"l1:c", 2},
            {"a0@1:;", 4}, {"a0@9/;", 4}, {"l0s", 2}, {"l0c0p", 4}, {"l0c0s0c", 6}, {"t0*1;l0c0s0p0;", 13},
            {"a0@/", 3}, {"a0@:", 3}, {"a/", 1}, {"t/", 1}, {"l/", 1}, {"l:", 1},
        };
        for (Object[] pair : wrong) {
            SubstituteDesk desk = deskOf(8);
            refuses(ARGUMENT, () -> readText(desk, (String) pair[0]));
            is((Integer) pair[1], desk::errorPosition);
            is(0, () -> desk.count(1));
            is(7, desk::undo);
        }
    }

    private static void errorPosition() {
        SubstituteDesk desk = new SubstituteDesk();
        refuses(NO_ELEMENT, desk::errorPosition);
        is(1, () -> readText(desk, "t0*1;"));
        refuses(STATE, () -> readText(desk, "a5@0;"));
        refuses(NO_ELEMENT, desk::errorPosition);
        refuses(ARGUMENT, () -> readText(desk, "t0*9"));
        is(3, desk::errorPosition);
        is(3, desk::errorPosition);
        is(1, () -> readText(desk, "t0*1;"));
        refuses(STATE, () -> readText(desk, "a5@0;"));
        desk.undo();
        desk.save();
        desk.restore();
        desk.clear();
        is(3, desk::errorPosition);
        refuses(ARGUMENT, desk::read);
        is(0, desk::errorPosition);
    }

    private static void describe() {
        SubstituteDesk desk = deskOf(8);
        desk.addLesson(0, 1, 2, 3, 4);
        desk.addLesson(9, 5, 4, 7, 2);
        desk.addLesson(10, 0, 0, 0, 0);
        desk.addLesson(29, 0, 0, 0, 0);
        judge("l0c1s2p3r4;", described(desk, 0));
        judge("l9c5s4p7r2;", described(desk, 1));
        judge("l10c0s0p0r0;", described(desk, 2));
        judge("l29c0s0p0r0;", described(desk, 3));
        is(11, () -> desk.describe(0, -1));
        is(12, () -> desk.describe(2, -1));
        is('l', () -> desk.describe(0, 0));
        is(';', () -> desk.describe(0, 10));
        is(';', () -> desk.describe(2, 11));
        refuses(NO_ELEMENT, () -> desk.describe(0, 11));
        refuses(NO_ELEMENT, () -> desk.describe(2, 12));
        refuses(NO_ELEMENT, () -> desk.describe(0, -2));
        refuses(NO_ELEMENT, () -> desk.describe(0, Integer.MIN_VALUE));
        refuses(NO_ELEMENT, () -> desk.describe(0, Integer.MAX_VALUE));
        refuses(INDEX, () -> desk.describe(4, -1));
        refuses(INDEX, () -> desk.describe(4, 99));
        for (int far : FAR) {
            refuses(INDEX, () -> desk.describe(far, 0));
        }
        desk.setRoom(0, 5);
        judge("l0c1s2p3r5;", described(desk, 0));
        desk.setAbsent(3, 0, true);
        judge("l0c1s2p3r5;", described(desk, 0));
    }

    private static void describedTextsCanBeRead() {
        SubstituteDesk desk = deskOf(2);
        desk.addLesson(23, 3, 4, 1, 5);
        String text = described(desk, 0);
        desk.removeLesson(0);
        is(1, () -> readText(desk, text));
        judge(text, described(desk, 0));
    }
}
