/** Promises 43 to 45, and what is a change: undo, save and restore. */
final class HistoryTest extends Check {
    public static void main(String[] args) {
        undoOfEachChange();
        refusedCallsAreNoChanges();
        questionsAreNoChanges();
        lastEightChanges();
        undoThenChange();
        undoOfCascade();
        changesThatChangeNothing();
        save();
        restore();
        finish();
    }

    /** In slot 0, a lesson is split, one is covered, two are taught and one is open; teacher 6 is free. */
    private static SubstituteDesk richDesk() {
        SubstituteDesk desk = deskOf(7);
        for (int room = 0; room < 6; room++) {
            desk.setCapacity(room, 60);
        }
        for (int k = 0; k < 5; k++) {
            desk.addLesson(0, k, 0, k, k);
        }
        desk.setAbsent(0, 0, true);
        desk.setAbsent(1, 0, true);
        desk.setAbsent(4, 0, true);
        desk.cover(1, 5);
        desk.split(0, 1, 2);
        return desk;
    }

    /** All that can be asked of the school, as a text: few enough calls to do so three times on one desk. */
    private static String dump(SubstituteDesk desk) {
        StringBuilder text = new StringBuilder();
        int teachers = desk.count(0);
        int lessons = desk.count(1);
        for (int what : upTo(8)) {
            text.append(outcome(() -> desk.count(what))).append(' ');
            for (int lesson : upTo(lessons)) {
                text.append(outcome(() -> desk.lesson(lesson, what))).append(' ');
            }
            for (int teacher : upTo(teachers)) {
                text.append(outcome(() -> desk.teacher(teacher, what))).append(' ');
            }
        }
        for (int lesson : upTo(lessons)) {
            text.append(outcome(() -> desk.host(lesson, false))).append(' ');
            text.append(outcome(() -> desk.host(lesson, true))).append(' ');
        }
        for (int day : upTo(5)) {
            for (int teacher : upTo(teachers)) {
                text.append(outcome(() -> desk.absent(teacher, day))).append(' ');
            }
        }
        return text.toString();
    }

    private static void undoOfEachChange() {
        Change[] changes = {
            desk -> desk.addTeacher(1, 1),
            desk -> desk.setLimit(5, 0),
            desk -> desk.setSize(3, 7),
            desk -> desk.setCapacity(5, 50),
            desk -> desk.addLesson(1, 0, 0, 0, 0),
            desk -> desk.removeLesson(1),
            desk -> desk.setRoom(3, 5),
            desk -> desk.setAbsent(5, 0, true),
            desk -> desk.setAbsent(0, 0, false),
            desk -> desk.cover(4, 6),
            desk -> desk.uncover(1),
            desk -> desk.split(4, 2, 3),
            desk -> desk.unsplit(0),
            desk -> desk.coverDay(0),
            desk -> desk.carryOut(4),
            desk -> readText(desk, "a5@0;t1*1;"),
        };
        for (Change change : changes) {
            SubstituteDesk desk = richDesk();
            for (int k = 0; k < 8; k++) {
                desk.setLimit(0, k % 2);
            }
            String before = dump(desk);
            change.done(desk);
            is(7, desk::undo);
            judge(before, dump(desk));
            is(0, desk::audit);
        }
        // Sizes and capacities are asked by setting them.
        SubstituteDesk desk = richDesk();
        desk.setSize(3, 7);
        desk.setCapacity(5, 50);
        desk.undo();
        desk.undo();
        is(20, () -> desk.setSize(3, 20));
        is(60, () -> desk.setCapacity(5, 60));
    }

    interface Change {
        int done(SubstituteDesk desk);
    }

    private static void refusedCallsAreNoChanges() {
        SubstituteDesk desk = deskOf(1);
        desk.addLesson(0, 0, 0, 0, 0);
        refuses(ARGUMENT, () -> desk.addTeacher(0, 0));
        refuses(INDEX, () -> desk.setLimit(1, 0));
        refuses(ARGUMENT, () -> desk.setLimit(0, 4));
        refuses(INDEX, () -> desk.setSize(6, 1));
        refuses(STATE, () -> desk.setCapacity(0, 19));
        refuses(UNSUPPORTED, () -> desk.addLesson(0, 0, 0, 0, 0));
        refuses(INDEX, () -> desk.removeLesson(1));
        refuses(ARGUMENT, () -> desk.setRoom(0, 6));
        refuses(STATE, () -> desk.setAbsent(0, 0, false));
        refuses(STATE, () -> desk.cover(0, 0));
        refuses(STATE, () -> desk.uncover(0));
        refuses(STATE, () -> desk.split(0, 0, 0));
        refuses(STATE, () -> desk.unsplit(0));
        refuses(INDEX, () -> desk.coverDay(5));
        refuses(INDEX, () -> desk.carryOut(5));
        refuses(ARGUMENT, () -> readText(desk, "t"));
        refuses(STATE, () -> readText(desk, "a0@0;a0@0;"));
        desk.setAbsent(0, 0, true);
        refuses(UNSUPPORTED, () -> desk.cover(0, 0));
        refuses(NO_ELEMENT, () -> desk.carryOut(0));
        is(2, desk::undo);
        is(1, desk::undo);
        is(0, () -> desk.count(1));
        is(0, desk::undo);
        refuses(NO_ELEMENT, desk::undo);
        is(0, () -> desk.count(0));
    }

    private static void questionsAreNoChanges() {
        SubstituteDesk desk = richDesk();
        String before = dump(desk);
        desk.free(0, 0);
        desk.freeRooms(0);
        desk.openOn(0);
        desk.open(0, 0);
        outcome(() -> desk.why(4, 5));
        outcome(() -> desk.suggestion(4));
        desk.points(4, 5);
        desk.spread();
        desk.extreme(true);
        desk.plans(0);
        outcome(() -> desk.plannedSpread(0));
        outcome(() -> desk.planned(0, 0));
        desk.averagePoints(3);
        desk.audit();
        desk.lost(0);
        desk.append('t');
        desk.describe(0, 0);
        desk.save();
        judge(before, dump(desk));
        is(7, desk::undo);
        is(3, () -> desk.lesson(0, 5));
    }

    private static void lastEightChanges() {
        SubstituteDesk desk = deskOf(1);
        for (int k = 0; k < 30; k++) {
            desk.addLesson(k, 0, 0, 0, 0);
        }
        for (int left = 7; left >= 0; left--) {
            is(left, desk::undo);
        }
        is(22, () -> desk.count(1));
        refuses(NO_ELEMENT, desk::undo);
        is(22, () -> desk.count(1));
        is(1, () -> desk.count(0));
    }

    private static void undoThenChange() {
        SubstituteDesk desk = new SubstituteDesk();
        for (int k = 1; k <= 8; k++) {
            desk.addTeacher(k, 1);
        }
        is(7, desk::undo);
        is(6, desk::undo);
        is(6, () -> desk.addTeacher(60, 1));
        is(6, desk::undo);
        is(6, () -> desk.count(0));
        for (int k = 0; k < 12; k++) {
            int limit = k % 4;
            desk.setLimit(5, limit);
        }
        for (int left = 7; left >= 0; left--) {
            int limit = (left + 3) % 4;
            is(left, desk::undo);
            is(limit, () -> desk.teacher(5, 2));
        }
        refuses(NO_ELEMENT, desk::undo);
    }

    private static void undoOfCascade() {
        SubstituteDesk desk = richDesk();
        is(2, () -> desk.setAbsent(5, 0, true));
        is(1, () -> desk.count(6));
        is(1, () -> desk.count(7));
        desk.undo();
        is(0, () -> desk.count(6));
        is(0, () -> desk.count(7));
        is(1, () -> desk.host(0, false));
        is(2, () -> desk.host(0, true));
        is(3, () -> desk.teacher(5, 3));
        is(0, desk::audit);
        is(4, () -> desk.removeLesson(0));
        desk.undo();
        is(2, () -> desk.setAbsent(5, 0, true));
    }

    private static void changesThatChangeNothing() {
        SubstituteDesk desk = deskOf(1);
        desk.addLesson(0, 0, 0, 0, 0);
        desk.setLimit(0, 2);
        desk.setSize(0, 20);
        desk.setCapacity(0, 30);
        desk.setRoom(0, 0);
        desk.coverDay(0);
        desk.carryOut(0);
        is(7, desk::undo);
        is(6, desk::undo);
        is(5, desk::undo);
        is(4, desk::undo);
        is(3, desk::undo);
        is(2, desk::undo);
        is(1, () -> desk.count(1));
        is(1, desk::undo);
        is(0, () -> desk.count(1));
    }

    private static void save() {
        SubstituteDesk desk = new SubstituteDesk();
        is(0, desk::save);
        desk.addTeacher(1, 1);
        desk.addLesson(0, 0, 0, 0, 0);
        is(1, desk::save);
        // Saving neither is a change nor forgets changes.
        is(1, desk::undo);
        is(0, () -> desk.count(1));
        is(1, desk::restore);
        is(1, () -> desk.count(1));
        desk.addLesson(1, 0, 0, 0, 0);
        is(2, desk::save);
        desk.clear();
        is(2, desk::restore);
        is(1, () -> desk.lesson(1, 0));
    }

    private static void restore() {
        SubstituteDesk desk = richDesk();
        refuses(STATE, desk::restore);
        desk.setSize(3, 9);
        desk.setCapacity(5, 13);
        desk.setAbsent(3, 29, true);
        desk.setLimit(2, 3);
        desk.removeLesson(4);
        String before = dump(desk);
        is(4, desk::save);
        desk.setAbsent(5, 0, true);
        desk.clear();
        desk.addTeacher(1, 3);
        desk.addTeacher(2, 4);
        desk.addLesson(9, 5, 4, 1, 3);
        desk.addLesson(8, 3, 2, 1, 4);
        desk.append('t');
        refuses(ARGUMENT, desk::read);
        desk.append('t');
        is(4, desk::restore);
        judge(before, dump(desk));
        refuses(NO_ELEMENT, desk::undo);
        // The input and the error position are not restored.
        is(1, desk::errorPosition);
        is(2, () -> desk.append('1'));
        is(9, () -> desk.setSize(3, 9));
        is(13, () -> desk.setCapacity(5, 13));
        is(0, desk::audit);
        desk.removeLesson(0);
        is(2, desk::undo);
        desk.removeLesson(0);
        // It stays saved, and what was done after restoring does not change it.
        is(4, desk::restore);
        judge(before, dump(desk));
        refuses(NO_ELEMENT, desk::undo);
    }
}
