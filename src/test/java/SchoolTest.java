/** Promises 1 to 13: a new object, the school, and what is asked of it. */
final class SchoolTest extends Check {
    public static void main(String[] args) {
        newDesk();
        clear();
        clearLeavesNothingBehind();
        addTeacher();
        setLimit();
        setSize();
        setSizeWithGuests();
        setCapacity();
        addLesson();
        addLessonOrder();
        manyLessons();
        removeLesson();
        removeLessonInSplitting();
        removedLessonsLeaveNothingBehind();
        setRoom();
        count();
        lesson();
        teacher();
        lessonOf();
        finish();
    }

    private static void newDesk() {
        SubstituteDesk desk = new SubstituteDesk();
        for (int what = 0; what < 8; what++) {
            int asked = what;
            is(0, () -> desk.count(asked));
        }
        for (int slot = 0; slot < 30; slot++) {
            int asked = slot;
            is(63, () -> desk.freeRooms(asked));
            refuses(NO_ELEMENT, () -> desk.lessonOf(asked, 0));
        }
        refuses(INDEX, () -> desk.teacher(0, 0));
        refuses(INDEX, () -> desk.lesson(0, 0));
        refuses(NO_ELEMENT, desk::refusal);
        refuses(NO_ELEMENT, desk::errorPosition);
        refuses(NO_ELEMENT, desk::undo);
        refuses(STATE, desk::restore);
        refuses(NO_ELEMENT, desk::spread);
        is(0, desk::audit);
        is(20, () -> desk.setSize(0, 20));
        is(20, () -> desk.setSize(5, 20));
        is(30, () -> desk.setCapacity(0, 30));
        is(30, () -> desk.setCapacity(5, 30));
    }

    private static void clear() {
        SubstituteDesk desk = deskOf(3);
        is(0, () -> desk.addLesson(0, 0, 0, 0, 0));
        is(1, () -> desk.addLesson(1, 0, 0, 0, 0));
        desk.setSize(2, 7);
        desk.setCapacity(3, 11);
        desk.setLimit(1, 0);
        desk.setAbsent(0, 0, true);
        desk.setAbsent(1, 9, true);
        desk.cover(0, 2);
        desk.setAbsent(2, 0, true);
        refuses(UNSUPPORTED, () -> desk.cover(0, 0));
        refuses(ARGUMENT, () -> readText(desk, "tx"));
        desk.append('t');
        is(1, () -> desk.count(6));
        is(2, desk::clear);
        for (int what = 0; what < 8; what++) {
            int asked = what;
            is(0, () -> desk.count(asked));
        }
        refuses(NO_ELEMENT, desk::undo);
        refuses(STATE, desk::restore);
        // The input, the error position and the reason are not of the school.
        is(1, desk::refusal);
        is(1, desk::errorPosition);
        is(2, () -> desk.append('1'));
        is(20, () -> desk.setSize(2, 20));
        is(30, () -> desk.setCapacity(3, 30));
        is(0, () -> desk.addTeacher(1, 1));
        is(1, () -> desk.addTeacher(1, 1));
        is(2, () -> desk.teacher(1, 2));
        is(0, () -> desk.teacher(1, 3));
        is(0, () -> desk.absent(1, 1));
        is(0, () -> desk.addLesson(0, 0, 0, 0, 0));
        is(0, () -> desk.lesson(0, 5));
        is(1, desk::clear);
        is(0, desk::clear);
    }

    private static void clearLeavesNothingBehind() {
        SubstituteDesk desk = deskOf(8);
        for (int room = 0; room < 6; room++) {
            desk.setCapacity(room, 60);
        }
        for (int k = 0; k < 6; k++) {
            desk.addLesson(0, k, 0, k, k);
        }
        for (int k = 0; k < 4; k++) {
            desk.setAbsent(k, 0, true);
        }
        desk.split(0, 4, 5);
        desk.split(1, 4, 5);
        desk.cover(2, 6);
        desk.removeLesson(1);
        is(1, () -> desk.count(7));
        is(5, desk::clear);
        desk.addTeacher(63, 1);
        for (int what = 1; what < 8; what++) {
            int asked = what;
            is(0, () -> desk.count(asked));
        }
        is(0, () -> desk.openOn(0));
        refuses(NO_ELEMENT, () -> desk.open(0, 0));
        is(0, () -> desk.lost(0));
        is(0, () -> desk.lost(3));
        is(1, () -> desk.plans(0));
        is(0, () -> desk.coverDay(0));
        is(63, () -> desk.freeRooms(0));
        is(63, () -> desk.free(0, 0));
        is(0, () -> desk.teacher(0, 5));
        is(0, () -> desk.teacher(0, 7));
        is(0, desk::spread);
        // The rows of the old teachers and lessons are used anew.
        for (int k = 1; k < 8; k++) {
            desk.addTeacher(63, 1);
        }
        for (int k = 0; k < 8; k++) {
            int asked = k;
            is(0, () -> desk.teacher(asked, 3));
            is(0, () -> desk.absent(asked, 0));
        }
        for (int k = 0; k < 6; k++) {
            int asked = k;
            is(k, () -> desk.addLesson(0, asked, 0, asked, asked));
            is(0, () -> desk.lesson(asked, 5));
            is(20, () -> desk.lesson(asked, 7));
        }
        desk.setAbsent(0, 0, true);
        desk.setAbsent(2, 0, true);
        is(3, () -> desk.lesson(0, 5));
        is(3, () -> desk.lesson(2, 5));
        is(0, desk::audit);
    }

    /** The last lessons and teachers leave rows behind when they are taken back; nobody may look at these. */
    private static void removedLessonsLeaveNothingBehind() {
        SubstituteDesk desk = deskOf(2);
        desk.addLesson(0, 0, 0, 0, 0);
        desk.setAbsent(0, 0, true);
        desk.setCapacity(0, 20);
        desk.removeLesson(0);
        is(0, () -> desk.openOn(0));
        is(0, () -> desk.count(5));
        is(0, () -> desk.lost(0));
        is(1, () -> desk.plans(0));
        is(0, () -> desk.coverDay(0));
        is(20, () -> desk.setSize(0, 30));
        is(20, () -> desk.setCapacity(0, 10));
        is(0, () -> desk.teacher(0, 5));
        is(0, () -> desk.teacher(0, 7));
        refuses(NO_ELEMENT, () -> desk.lessonOf(0, 0));
        desk.setSize(0, 10);
        is(0, () -> desk.addLesson(0, 0, 0, 1, 0));
        desk.addTeacher(63, 4);
        desk.setAbsent(1, 0, true);
        desk.undo();
        desk.undo();
        desk.setAbsent(1, 0, true);
        refuses(NO_ELEMENT, () -> desk.suggestion(0));
        is(0, () -> desk.plans(0));
        is(0, () -> desk.extreme(true));
        is(0, desk::audit);
    }

    private static void addTeacher() {
        SubstituteDesk desk = new SubstituteDesk();
        refuses(ARGUMENT, () -> desk.addTeacher(0, 1));
        refuses(ARGUMENT, () -> desk.addTeacher(64, 1));
        refuses(ARGUMENT, () -> desk.addTeacher(1, 0));
        refuses(ARGUMENT, () -> desk.addTeacher(1, 5));
        for (int far : FAR) {
            refuses(ARGUMENT, () -> desk.addTeacher(far, 1));
            refuses(ARGUMENT, () -> desk.addTeacher(1, far));
        }
        is(0, () -> desk.count(0));
        is(0, () -> desk.addTeacher(1, 1));
        is(1, () -> desk.addTeacher(63, 4));
        is(2, () -> desk.addTeacher(40, 3));
        is(63, () -> desk.teacher(1, 0));
        is(4, () -> desk.teacher(1, 1));
        is(40, () -> desk.teacher(2, 0));
        is(3, () -> desk.teacher(2, 1));
        is(2, () -> desk.teacher(2, 2));
        is(0, () -> desk.teacher(2, 3));
        is(0, () -> desk.absent(2, 0));
        for (int number = 3; number < 8; number++) {
            int next = number;
            is(next, () -> desk.addTeacher(2, 2));
        }
        is(8, () -> desk.count(0));
        refuses(STATE, () -> desk.addTeacher(1, 1));
        refuses(ARGUMENT, () -> desk.addTeacher(0, 1));
        refuses(ARGUMENT, () -> desk.addTeacher(1, 5));
        is(8, () -> desk.count(0));
    }

    private static void setLimit() {
        SubstituteDesk desk = deskOf(2);
        is(2, () -> desk.setLimit(0, 3));
        is(3, () -> desk.setLimit(0, 0));
        is(0, () -> desk.setLimit(0, 0));
        is(0, () -> desk.teacher(0, 2));
        is(2, () -> desk.teacher(1, 2));
        is(2, () -> desk.setLimit(1, 1));
        refuses(INDEX, () -> desk.setLimit(2, 1));
        refuses(INDEX, () -> desk.setLimit(2, 9));
        refuses(ARGUMENT, () -> desk.setLimit(0, 4));
        for (int far : FAR) {
            refuses(INDEX, () -> desk.setLimit(far, 1));
            refuses(ARGUMENT, () -> desk.setLimit(0, far));
        }
        is(0, () -> desk.teacher(0, 2));
        desk.addLesson(0, 0, 0, 0, 0);
        desk.setAbsent(0, 0, true);
        is(2, () -> desk.cover(0, 1));
        is(1, () -> desk.setLimit(1, 0));
        is(1, () -> desk.teacher(1, 6));
        is(1, () -> desk.lesson(0, 6));
        is(0, () -> desk.count(6));
    }

    private static void setSize() {
        SubstituteDesk desk = deskOf(2);
        is(20, () -> desk.setSize(0, 1));
        is(1, () -> desk.setSize(0, 30));
        is(30, () -> desk.setSize(0, 30));
        is(20, () -> desk.setSize(5, 5));
        refuses(INDEX, () -> desk.setSize(6, 5));
        refuses(INDEX, () -> desk.setSize(6, 0));
        refuses(ARGUMENT, () -> desk.setSize(0, 0));
        refuses(ARGUMENT, () -> desk.setSize(0, 31));
        for (int far : FAR) {
            refuses(INDEX, () -> desk.setSize(far, 5));
            refuses(ARGUMENT, () -> desk.setSize(0, far));
        }
        desk.setCapacity(1, 10);
        desk.setSize(1, 10);
        is(0, () -> desk.addLesson(0, 0, 0, 0, 0));
        is(1, () -> desk.addLesson(0, 1, 0, 1, 1));
        is(10, () -> desk.setSize(1, 9));
        is(9, () -> desk.setSize(1, 10));
        refuses(STATE, () -> desk.setSize(1, 11));
        refuses(ARGUMENT, () -> desk.setSize(1, 31));
        is(10, () -> desk.lesson(1, 7));
        is(30, () -> desk.lesson(0, 7));
        // An open lesson has a load, too.
        desk.setAbsent(1, 0, true);
        refuses(STATE, () -> desk.setSize(1, 11));
        // The second lesson of a class counts as the first one does.
        is(2, () -> desk.addLesson(1, 5, 0, 0, 0));
        is(3, () -> desk.addLesson(2, 5, 0, 0, 1));
        refuses(STATE, () -> desk.setSize(5, 11));
        is(5, () -> desk.setSize(5, 10));
    }

    private static void setSizeWithGuests() {
        SubstituteDesk desk = deskOf(3);
        desk.setCapacity(1, 40);
        desk.setCapacity(2, 50);
        desk.setSize(0, 21);
        desk.addLesson(3, 0, 0, 0, 0);
        desk.addLesson(3, 1, 0, 1, 1);
        desk.addLesson(3, 2, 0, 2, 2);
        desk.addLesson(4, 0, 0, 0, 0);
        desk.setAbsent(0, 3, true);
        is(11, () -> desk.split(0, 1, 2));
        refuses(STATE, () -> desk.setSize(0, 21));
        refuses(STATE, () -> desk.setSize(0, 1));
        is(20, () -> desk.setSize(1, 29));
        refuses(STATE, () -> desk.setSize(1, 30));
        is(40, () -> desk.lesson(1, 7));
        is(20, () -> desk.setSize(2, 30));
        is(40, () -> desk.lesson(2, 7));
        desk.unsplit(0);
        is(29, () -> desk.setSize(1, 30));
        is(21, () -> desk.setSize(0, 1));
    }

    private static void setCapacity() {
        SubstituteDesk desk = deskOf(3);
        is(30, () -> desk.setCapacity(0, 10));
        is(10, () -> desk.setCapacity(0, 60));
        is(30, () -> desk.setCapacity(5, 31));
        refuses(INDEX, () -> desk.setCapacity(6, 30));
        refuses(INDEX, () -> desk.setCapacity(6, 0));
        refuses(ARGUMENT, () -> desk.setCapacity(0, 9));
        refuses(ARGUMENT, () -> desk.setCapacity(0, 61));
        for (int far : FAR) {
            refuses(INDEX, () -> desk.setCapacity(far, 30));
            refuses(ARGUMENT, () -> desk.setCapacity(0, far));
        }
        desk.setCapacity(1, 35);
        desk.addLesson(9, 0, 0, 0, 0);
        desk.addLesson(9, 1, 0, 1, 1);
        desk.addLesson(9, 2, 0, 2, 2);
        is(60, () -> desk.setCapacity(0, 20));
        refuses(STATE, () -> desk.setCapacity(0, 19));
        is(20, () -> desk.setCapacity(0, 60));
        desk.setAbsent(2, 9, true);
        refuses(STATE, () -> desk.setCapacity(2, 19));
        is(10, () -> desk.split(2, 1, 0));
        refuses(STATE, () -> desk.setCapacity(2, 19));
        refuses(STATE, () -> desk.setCapacity(1, 29));
        is(35, () -> desk.setCapacity(1, 30));
        refuses(STATE, () -> desk.setCapacity(0, 29));
        desk.setAbsent(2, 9, false);
        is(30, () -> desk.setCapacity(1, 20));
        refuses(STATE, () -> desk.setCapacity(1, 19));
    }

    private static void addLesson() {
        SubstituteDesk desk = deskOf(3);
        desk.setSize(3, 30);
        desk.setCapacity(4, 20);
        is(0, () -> desk.addLesson(29, 5, 5, 2, 5));
        is(29, () -> desk.lesson(0, 0));
        is(5, () -> desk.lesson(0, 1));
        is(5, () -> desk.lesson(0, 2));
        is(2, () -> desk.lesson(0, 3));
        is(5, () -> desk.lesson(0, 4));
        refuses(UNSUPPORTED, () -> desk.addLesson(29, 5, 0, 0, 0));
        refuses(UNSUPPORTED, () -> desk.addLesson(29, 0, 0, 2, 0));
        refuses(UNSUPPORTED, () -> desk.addLesson(29, 0, 0, 0, 5));
        refuses(UNSUPPORTED, () -> desk.addLesson(0, 3, 0, 0, 4));
        is(1, () -> desk.addLesson(29, 3, 5, 0, 0));
        is(2, () -> desk.addLesson(28, 5, 5, 2, 5));
        is(3, () -> desk.addLesson(0, 0, 0, 0, 4));
        desk.setAbsent(0, 0, true);
        desk.cover(3, 1);
        refuses(UNSUPPORTED, () -> desk.addLesson(0, 1, 0, 1, 1));
        is(4, () -> desk.addLesson(1, 1, 0, 1, 1));
        desk.uncover(3);
        is(5, () -> desk.addLesson(0, 1, 0, 1, 1));
        // A lesson of an absent teacher is open at once; it still has its place.
        desk.setAbsent(2, 7, true);
        is(6, () -> desk.addLesson(7, 2, 1, 2, 2));
        is(3, () -> desk.lesson(6, 5));
        refuses(UNSUPPORTED, () -> desk.addLesson(7, 3, 1, 2, 3));
        is(2, () -> desk.cover(6, 0));
    }

    private static void addLessonOrder() {
        SubstituteDesk desk = deskOf(1);
        int[][] wrong = {{30, 0, 0, 0, 0}, {0, 6, 0, 0, 0}, {0, 0, 6, 0, 0}, {0, 0, 0, 1, 0}, {0, 0, 0, 0, 6}};
        for (int[] five : wrong) {
            refuses(ARGUMENT, () -> desk.addLesson(five[0], five[1], five[2], five[3], five[4]));
        }
        for (int far : FAR) {
            refuses(ARGUMENT, () -> desk.addLesson(far, 0, 0, 0, 0));
            refuses(ARGUMENT, () -> desk.addLesson(0, far, 0, 0, 0));
            refuses(ARGUMENT, () -> desk.addLesson(0, 0, far, 0, 0));
            refuses(ARGUMENT, () -> desk.addLesson(0, 0, 0, far, 0));
            refuses(ARGUMENT, () -> desk.addLesson(0, 0, 0, 0, far));
        }
        is(0, () -> desk.addLesson(0, 0, 0, 0, 0));
        // Numbers come before collisions.
        refuses(ARGUMENT, () -> desk.addLesson(0, 0, 6, 0, 0));
        refuses(UNSUPPORTED, () -> desk.addLesson(0, 0, 5, 0, 0));
        is(1, () -> desk.count(1));
    }

    private static void manyLessons() {
        SubstituteDesk desk = deskOf(2);
        for (int slot = 0; slot < 20; slot++) {
            int asked = slot;
            is(2 * slot, () -> desk.addLesson(asked, 0, 0, 0, 0));
            is(2 * slot + 1, () -> desk.addLesson(asked, 1, 0, 1, 1));
        }
        is(40, () -> desk.count(1));
        refuses(STATE, () -> desk.addLesson(25, 0, 0, 0, 0));
        refuses(UNSUPPORTED, () -> desk.addLesson(0, 0, 0, 0, 0));
        refuses(UNSUPPORTED, () -> desk.addLesson(19, 2, 0, 1, 2));
        refuses(ARGUMENT, () -> desk.addLesson(30, 0, 0, 0, 0));
        is(19, () -> desk.lesson(39, 0));
        refuses(INDEX, () -> desk.lesson(40, 0));
        is(39, () -> desk.removeLesson(39));
        is(39, () -> desk.addLesson(25, 0, 0, 0, 0));
        is(39, () -> desk.removeLesson(0));
        is(25, () -> desk.lesson(38, 0));
        is(0, () -> desk.lesson(0, 0));
        is(1, () -> desk.lesson(0, 1));
    }

    private static void removeLesson() {
        SubstituteDesk desk = deskOf(3);
        refuses(INDEX, () -> desk.removeLesson(0));
        desk.addLesson(1, 0, 1, 0, 0);
        desk.addLesson(2, 1, 2, 1, 1);
        desk.addLesson(3, 2, 3, 2, 2);
        refuses(INDEX, () -> desk.removeLesson(3));
        for (int far : FAR) {
            refuses(INDEX, () -> desk.removeLesson(far));
        }
        desk.setAbsent(1, 2, true);
        desk.cover(1, 2);
        is(2, () -> desk.teacher(2, 3));
        is(2, () -> desk.removeLesson(0));
        is(2, () -> desk.lesson(0, 0));
        is(1, () -> desk.lesson(0, 1));
        is(2, () -> desk.lesson(0, 2));
        is(1, () -> desk.lesson(0, 3));
        is(1, () -> desk.lesson(0, 4));
        is(1, () -> desk.lesson(0, 5));
        is(2, () -> desk.lesson(0, 6));
        is(3, () -> desk.lesson(1, 0));
        is(0, () -> desk.count(6));
        is(1, () -> desk.removeLesson(0));
        is(1, () -> desk.count(6));
        is(0, () -> desk.count(7));
        is(0, () -> desk.teacher(2, 3));
        is(0, () -> desk.teacher(2, 6));
        is(0, () -> desk.teacher(1, 5));
        is(0, () -> desk.removeLesson(0));
        refuses(INDEX, () -> desk.removeLesson(0));
    }

    private static void removeLessonInSplitting() {
        SubstituteDesk desk = deskOf(4);
        for (int room = 0; room < 6; room++) {
            desk.setCapacity(room, 60);
        }
        desk.addLesson(0, 5, 0, 3, 5);
        desk.addLesson(6, 0, 0, 0, 0);
        desk.addLesson(6, 1, 0, 1, 1);
        desk.addLesson(6, 2, 0, 2, 2);
        desk.addLesson(6, 3, 0, 3, 3);
        desk.setAbsent(0, 6, true);
        desk.setAbsent(3, 6, true);
        desk.split(1, 2, 3);
        desk.split(4, 3, 2);
        is(2, () -> desk.teacher(1, 3));
        // The hosts keep being the same lessons when the numbers decrease.
        is(4, () -> desk.removeLesson(0));
        is(1, () -> desk.host(0, false));
        is(2, () -> desk.host(0, true));
        is(2, () -> desk.host(3, false));
        is(1, () -> desk.host(3, true));
        is(40, () -> desk.lesson(1, 7));
        // Removing a split lesson ends its splitting alone.
        is(3, () -> desk.removeLesson(0));
        is(1, () -> desk.count(7));
        is(1, () -> desk.teacher(1, 3));
        is(1, () -> desk.host(2, false));
        is(0, () -> desk.host(2, true));
        // Removing a host ends the splitting; the split lesson is open then.
        is(2, () -> desk.removeLesson(1));
        is(2, () -> desk.count(7));
        is(0, () -> desk.count(6));
        is(3, () -> desk.lesson(1, 5));
        is(20, () -> desk.lesson(0, 7));
        is(0, () -> desk.teacher(1, 3));
        is(0, () -> desk.teacher(2, 3));
        is(0, desk::audit);
    }

    private static void setRoom() {
        SubstituteDesk desk = deskOf(3);
        desk.addLesson(0, 0, 0, 0, 0);
        desk.addLesson(0, 1, 0, 1, 1);
        desk.addLesson(1, 2, 0, 2, 5);
        is(0, () -> desk.setRoom(0, 5));
        is(5, () -> desk.setRoom(0, 5));
        is(5, () -> desk.lesson(0, 4));
        is(1, () -> desk.setRoom(1, 0));
        refuses(STATE, () -> desk.setRoom(1, 5));
        refuses(INDEX, () -> desk.setRoom(3, 0));
        refuses(INDEX, () -> desk.setRoom(3, 6));
        refuses(ARGUMENT, () -> desk.setRoom(0, 6));
        for (int far : FAR) {
            refuses(INDEX, () -> desk.setRoom(far, 0));
            refuses(ARGUMENT, () -> desk.setRoom(0, far));
        }
        desk.setCapacity(2, 20);
        desk.setCapacity(3, 19);
        is(5, () -> desk.setRoom(2, 2));
        refuses(STATE, () -> desk.setRoom(2, 3));
        desk.setAbsent(2, 1, true);
        refuses(STATE, () -> desk.setRoom(2, 3));
        is(2, () -> desk.setRoom(2, 4));
        // A host takes its guests with it.
        desk.setAbsent(2, 0, true);
        is(3, () -> desk.addLesson(0, 3, 0, 2, 2));
        is(10, () -> desk.split(3, 0, 1));
        refuses(STATE, () -> desk.setRoom(0, 3));
        desk.setCapacity(3, 29);
        refuses(STATE, () -> desk.setRoom(0, 3));
        desk.setCapacity(3, 30);
        is(5, () -> desk.setRoom(0, 3));
        is(1, () -> desk.teacher(0, 3));
        is(2, () -> desk.lesson(3, 5));
        is(2, () -> desk.setRoom(3, 5));
        refuses(STATE, () -> desk.setRoom(3, 0));
    }

    private static void count() {
        SubstituteDesk desk = deskOf(5);
        desk.setCapacity(0, 60);
        desk.addLesson(0, 0, 0, 0, 0);
        desk.addLesson(0, 1, 0, 1, 1);
        desk.addLesson(0, 2, 0, 2, 2);
        desk.addLesson(0, 3, 0, 3, 3);
        desk.addLesson(12, 3, 0, 3, 3);
        desk.addLesson(13, 3, 0, 3, 3);
        desk.setAbsent(1, 0, true);
        desk.setAbsent(2, 0, true);
        desk.setAbsent(3, 0, true);
        desk.cover(1, 4);
        desk.split(2, 0, 1);
        int[] due = {5, 6, 3, 1, 1, 1, 0, 0};
        for (int what = 0; what < 8; what++) {
            int asked = what;
            is(due[what], () -> desk.count(asked));
        }
        desk.setAbsent(4, 0, true);
        is(1, () -> desk.count(6));
        is(1, () -> desk.count(7));
        is(3, () -> desk.count(5));
        refuses(ARGUMENT, () -> desk.count(8));
        for (int far : FAR) {
            refuses(ARGUMENT, () -> desk.count(far));
        }
    }

    private static void lesson() {
        SubstituteDesk desk = deskOf(4);
        for (int room = 0; room < 6; room++) {
            desk.setCapacity(room, 60);
        }
        desk.setSize(0, 15);
        desk.addLesson(10, 0, 3, 0, 4);
        desk.addLesson(10, 1, 2, 1, 5);
        desk.addLesson(10, 2, 1, 2, 0);
        desk.setAbsent(0, 10, true);
        int[] open = {10, 0, 3, 0, 4, 3, -1, 15};
        for (int what = 0; what < 8; what++) {
            int asked = what;
            is(open[what], () -> desk.lesson(0, asked));
        }
        is(0, () -> desk.lesson(1, 5));
        is(1, () -> desk.lesson(1, 6));
        desk.split(0, 1, 2);
        is(2, () -> desk.lesson(0, 5));
        is(-1, () -> desk.lesson(0, 6));
        is(15, () -> desk.lesson(0, 7));
        is(28, () -> desk.lesson(1, 7));
        is(27, () -> desk.lesson(2, 7));
        desk.unsplit(0);
        desk.cover(0, 3);
        is(1, () -> desk.lesson(0, 5));
        is(3, () -> desk.lesson(0, 6));
        is(0, () -> desk.lesson(0, 3));
        refuses(ARGUMENT, () -> desk.lesson(0, 8));
        refuses(INDEX, () -> desk.lesson(3, 0));
        refuses(INDEX, () -> desk.lesson(3, 8));
        for (int far : FAR) {
            refuses(ARGUMENT, () -> desk.lesson(0, far));
            refuses(INDEX, () -> desk.lesson(far, 0));
        }
    }

    private static void teacher() {
        SubstituteDesk desk = new SubstituteDesk();
        desk.addTeacher(5, 3);
        desk.addTeacher(2, 4);
        desk.addLesson(0, 0, 0, 0, 0);
        desk.addLesson(7, 0, 1, 0, 0);
        desk.addLesson(11, 0, 1, 0, 0);
        desk.addLesson(29, 1, 1, 1, 1);
        desk.setAbsent(0, 0, true);
        desk.setAbsent(0, 7, true);
        desk.setLimit(1, 3);
        desk.cover(0, 1);
        desk.cover(1, 1);
        int[] first = {5, 3, 2, 0, 0, 3, 0, 2};
        int[] second = {2, 4, 3, 6, 18, 1, 2, 0};
        for (int what = 0; what < 8; what++) {
            int asked = what;
            is(first[what], () -> desk.teacher(0, asked));
            is(second[what], () -> desk.teacher(1, asked));
        }
        desk.setAbsent(1, 29, true);
        is(6, () -> desk.cover(3, 0));
        is(6, () -> desk.teacher(0, 3));
        is(24, () -> desk.teacher(0, 4));
        desk.setAbsent(0, 11, true);
        is(3, () -> desk.teacher(0, 7));
        is(1, () -> desk.teacher(1, 7));
        refuses(ARGUMENT, () -> desk.teacher(0, 8));
        refuses(INDEX, () -> desk.teacher(2, 0));
        refuses(INDEX, () -> desk.teacher(2, 8));
        for (int far : FAR) {
            refuses(ARGUMENT, () -> desk.teacher(0, far));
            refuses(INDEX, () -> desk.teacher(far, 0));
        }
    }

    private static void lessonOf() {
        SubstituteDesk desk = deskOf(2);
        desk.addLesson(0, 0, 0, 0, 0);
        desk.addLesson(29, 5, 0, 1, 5);
        desk.addLesson(29, 4, 0, 0, 4);
        is(0, () -> desk.lessonOf(0, 0));
        is(1, () -> desk.lessonOf(29, 5));
        is(2, () -> desk.lessonOf(29, 4));
        refuses(NO_ELEMENT, () -> desk.lessonOf(0, 1));
        refuses(NO_ELEMENT, () -> desk.lessonOf(1, 0));
        refuses(INDEX, () -> desk.lessonOf(30, 0));
        refuses(INDEX, () -> desk.lessonOf(0, 6));
        for (int far : FAR) {
            refuses(INDEX, () -> desk.lessonOf(far, 0));
            refuses(INDEX, () -> desk.lessonOf(0, far));
        }
        desk.setAbsent(1, 29, true);
        is(1, () -> desk.lessonOf(29, 5));
        desk.removeLesson(0);
        is(0, () -> desk.lessonOf(29, 5));
        refuses(NO_ELEMENT, () -> desk.lessonOf(0, 0));
    }
}
