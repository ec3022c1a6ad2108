/** Promises 14 to 19: absences and what is open or free. */
final class AbsenceTest extends Check {
    public static void main(String[] args) {
        setAbsent();
        absenceOfHost();
        absenceOfCoveringHost();
        absenceEndsOwnSplitting();
        absenceEndsCoverThatHosts();
        manySplittingsOfOneHost();
        absent();
        free();
        freeRooms();
        openOn();
        open();
        finish();
    }

    private static SubstituteDesk wideDesk(int teachers) {
        SubstituteDesk desk = deskOf(teachers);
        for (int room = 0; room < 6; room++) {
            desk.setCapacity(room, 60);
        }
        return desk;
    }

    private static void setAbsent() {
        SubstituteDesk desk = deskOf(2);
        is(0, () -> desk.setAbsent(0, 0, true));
        refuses(STATE, () -> desk.setAbsent(0, 0, true));
        is(0, () -> desk.setAbsent(0, 0, false));
        refuses(STATE, () -> desk.setAbsent(0, 0, false));
        is(0, () -> desk.setAbsent(1, 29, true));
        refuses(INDEX, () -> desk.setAbsent(2, 0, true));
        refuses(INDEX, () -> desk.setAbsent(0, 30, true));
        refuses(INDEX, () -> desk.setAbsent(0, 30, false));
        for (int far : FAR) {
            refuses(INDEX, () -> desk.setAbsent(far, 0, true));
            refuses(INDEX, () -> desk.setAbsent(0, far, true));
        }
        desk.addLesson(0, 0, 0, 0, 0);
        desk.addLesson(1, 0, 0, 0, 0);
        is(0, () -> desk.setAbsent(0, 0, true));
        is(3, () -> desk.lesson(0, 5));
        is(0, () -> desk.lesson(1, 5));
        is(2, () -> desk.cover(0, 1));
        // The covering teacher becomes absent: the cover ends.
        is(1, () -> desk.setAbsent(1, 0, true));
        is(3, () -> desk.lesson(0, 5));
        is(1, () -> desk.count(6));
        is(0, () -> desk.teacher(1, 3));
        is(0, () -> desk.setAbsent(1, 0, false));
        is(3, () -> desk.lesson(0, 5));
        is(2, () -> desk.cover(0, 1));
        is(0, () -> desk.setAbsent(1, 1, true));
        // The own teacher comes back: the cover ends, the lesson is taught.
        is(1, () -> desk.setAbsent(0, 0, false));
        is(0, () -> desk.lesson(0, 5));
        is(0, () -> desk.lesson(0, 6));
        is(2, () -> desk.count(6));
        is(0, () -> desk.teacher(1, 3));
        is(0, desk::audit);
    }

    private static void absenceOfHost() {
        SubstituteDesk desk = wideDesk(3);
        for (int k = 0; k < 3; k++) {
            desk.addLesson(8, k, 0, k, k);
        }
        desk.setAbsent(0, 8, true);
        desk.split(0, 1, 2);
        is(1, () -> desk.setAbsent(2, 8, true));
        is(3, () -> desk.lesson(0, 5));
        is(3, () -> desk.lesson(2, 5));
        is(0, () -> desk.teacher(1, 3));
        is(0, () -> desk.teacher(2, 3));
        is(20, () -> desk.lesson(1, 7));
        is(1, () -> desk.count(7));
        is(0, () -> desk.count(6));
        // A host that is open again is no host of what it hosted before.
        is(0, () -> desk.setAbsent(2, 8, false));
        is(3, () -> desk.lesson(0, 5));
    }

    private static void absenceOfCoveringHost() {
        SubstituteDesk desk = wideDesk(4);
        for (int k = 0; k < 3; k++) {
            desk.addLesson(8, k, 0, k, k);
        }
        desk.setAbsent(0, 8, true);
        desk.setAbsent(1, 8, true);
        desk.cover(1, 3);
        desk.split(0, 2, 1);
        is(3, () -> desk.teacher(3, 3));
        is(1, () -> desk.teacher(2, 3));
        is(2, () -> desk.setAbsent(3, 8, true));
        is(3, () -> desk.lesson(0, 5));
        is(3, () -> desk.lesson(1, 5));
        is(0, () -> desk.teacher(3, 3));
        is(0, () -> desk.teacher(2, 3));
        is(1, () -> desk.count(6));
        is(1, () -> desk.count(7));
    }

    private static void absenceEndsOwnSplitting() {
        SubstituteDesk desk = wideDesk(3);
        for (int k = 0; k < 3; k++) {
            desk.addLesson(8, k, 0, k, k);
        }
        desk.setAbsent(0, 8, true);
        desk.split(0, 1, 2);
        is(1, () -> desk.setAbsent(0, 8, false));
        is(0, () -> desk.lesson(0, 5));
        is(0, () -> desk.teacher(1, 3));
        is(0, () -> desk.teacher(2, 3));
        is(1, () -> desk.count(7));
        is(0, desk::audit);
    }

    private static void absenceEndsCoverThatHosts() {
        SubstituteDesk desk = wideDesk(4);
        for (int k = 0; k < 3; k++) {
            desk.addLesson(8, k, 0, k, k);
        }
        desk.setAbsent(0, 8, true);
        desk.setAbsent(1, 8, true);
        desk.cover(1, 3);
        desk.split(0, 1, 2);
        // The acting teacher changes from 3 to 1, so the splitting ends as well as the cover.
        is(2, () -> desk.setAbsent(1, 8, false));
        is(0, () -> desk.lesson(1, 5));
        is(1, () -> desk.lesson(1, 6));
        is(3, () -> desk.lesson(0, 5));
        for (int k = 0; k < 4; k++) {
            int asked = k;
            is(0, () -> desk.teacher(asked, 3));
        }
        is(1, () -> desk.count(6));
        is(1, () -> desk.count(7));
    }

    private static void manySplittingsOfOneHost() {
        SubstituteDesk desk = wideDesk(6);
        for (int k = 0; k < 6; k++) {
            desk.setSize(k, 10);
            desk.addLesson(20, k, 0, k, k);
        }
        for (int k = 0; k < 4; k++) {
            desk.setAbsent(k, 20, true);
            desk.split(k, 4, 5);
        }
        is(4, () -> desk.teacher(4, 3));
        is(30, () -> desk.lesson(5, 7));
        is(4, () -> desk.setAbsent(5, 20, true));
        is(4, () -> desk.count(7));
        is(0, () -> desk.teacher(4, 3));
        is(0, () -> desk.teacher(5, 3));
        is(5, () -> desk.count(5));
        is(10, () -> desk.lesson(4, 7));
    }

    private static void absent() {
        SubstituteDesk desk = deskOf(2);
        desk.setAbsent(1, 6, true);
        desk.setAbsent(1, 11, true);
        desk.setAbsent(1, 12, true);
        desk.setAbsent(1, 29, true);
        is(0, () -> desk.absent(1, 0));
        is(33, () -> desk.absent(1, 1));
        is(1, () -> desk.absent(1, 2));
        is(32, () -> desk.absent(1, 4));
        is(0, () -> desk.absent(0, 1));
        desk.setAbsent(1, 6, false);
        is(32, () -> desk.absent(1, 1));
        refuses(INDEX, () -> desk.absent(2, 0));
        refuses(INDEX, () -> desk.absent(0, 5));
        for (int far : FAR) {
            refuses(INDEX, () -> desk.absent(far, 0));
            refuses(INDEX, () -> desk.absent(0, far));
        }
    }

    private static void free() {
        SubstituteDesk desk = deskOf(3);
        is(63, () -> desk.free(0, 0));
        is(63, () -> desk.free(2, 4));
        desk.addLesson(24, 0, 0, 0, 0);
        desk.addLesson(29, 1, 0, 1, 1);
        desk.addLesson(18, 1, 0, 1, 1);
        is(62, () -> desk.free(0, 4));
        is(31, () -> desk.free(1, 4));
        desk.setAbsent(0, 24, true);
        desk.setAbsent(0, 26, true);
        is(58, () -> desk.free(0, 4));
        desk.cover(0, 1);
        is(30, () -> desk.free(1, 4));
        is(62, () -> desk.free(1, 3));
        is(63, () -> desk.free(2, 4));
        desk.uncover(0);
        is(31, () -> desk.free(1, 4));
        refuses(INDEX, () -> desk.free(3, 0));
        refuses(INDEX, () -> desk.free(0, 5));
        for (int far : FAR) {
            refuses(INDEX, () -> desk.free(far, 0));
            refuses(INDEX, () -> desk.free(0, far));
        }
    }

    private static void freeRooms() {
        SubstituteDesk desk = deskOf(2);
        is(63, () -> desk.freeRooms(29));
        desk.addLesson(29, 0, 0, 0, 0);
        desk.addLesson(29, 1, 0, 1, 5);
        is(30, () -> desk.freeRooms(29));
        is(63, () -> desk.freeRooms(28));
        desk.setAbsent(0, 29, true);
        is(30, () -> desk.freeRooms(29));
        desk.setRoom(0, 3);
        is(23, () -> desk.freeRooms(29));
        desk.removeLesson(0);
        is(31, () -> desk.freeRooms(29));
        refuses(INDEX, () -> desk.freeRooms(30));
        for (int far : FAR) {
            refuses(INDEX, () -> desk.freeRooms(far));
        }
    }

    private static SubstituteDesk openDesk() {
        SubstituteDesk desk = wideDesk(4);
        desk.addLesson(11, 0, 0, 0, 0);
        desk.addLesson(6, 1, 0, 1, 1);
        desk.addLesson(11, 2, 0, 2, 2);
        desk.addLesson(12, 0, 0, 0, 0);
        desk.addLesson(7, 0, 0, 0, 0);
        desk.addLesson(6, 0, 0, 0, 0);
        desk.addLesson(5, 3, 0, 1, 3);
        int[][] absences = {{0, 11}, {1, 6}, {2, 11}, {0, 12}, {0, 6}, {1, 5}};
        for (int[] pair : absences) {
            desk.setAbsent(pair[0], pair[1], true);
        }
        return desk;
    }

    private static void openOn() {
        SubstituteDesk desk = openDesk();
        int[] due = {1, 4, 1, 0, 0};
        for (int day = 0; day < 5; day++) {
            int asked = day;
            is(due[day], () -> desk.openOn(asked));
        }
        desk.cover(0, 3);
        is(3, () -> desk.openOn(1));
        desk.setAbsent(0, 6, false);
        is(2, () -> desk.openOn(1));
        refuses(INDEX, () -> desk.openOn(5));
        for (int far : FAR) {
            refuses(INDEX, () -> desk.openOn(far));
        }
    }

    private static void open() {
        SubstituteDesk desk = openDesk();
        int[] due = {1, 5, 0, 2};
        for (int index = 0; index < 4; index++) {
            int asked = index;
            is(due[index], () -> desk.open(1, asked));
        }
        is(6, () -> desk.open(0, 0));
        is(3, () -> desk.open(2, 0));
        refuses(NO_ELEMENT, () -> desk.open(1, 4));
        refuses(NO_ELEMENT, () -> desk.open(4, 0));
        refuses(INDEX, () -> desk.open(5, 0));
        refuses(INDEX, () -> desk.open(5, -1));
        for (int far : FAR) {
            refuses(INDEX, () -> desk.open(far, 0));
            refuses(NO_ELEMENT, () -> desk.open(1, far));
        }
        desk.cover(5, 2);
        is(0, () -> desk.open(1, 1));
        refuses(NO_ELEMENT, () -> desk.open(1, 3));
    }
}
