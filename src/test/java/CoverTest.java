/** Promises 20 to 29: covers and splittings. */
final class CoverTest extends Check {
    public static void main(String[] args) {
        why();
        whyInOrder();
        points();
        suggestion();
        suggestionByShare();
        cover();
        uncover();
        uncoverOfHost();
        split();
        splitIntoFullRooms();
        splitByCoveredHosts();
        unsplit();
        host();
        refusal();
        coverDay();
        coverDayGoesByShares();
        finish();
    }

    private static void why() {
        SubstituteDesk desk = deskOf(5);
        desk.addLesson(1, 0, 0, 0, 0);
        desk.addLesson(1, 1, 0, 1, 1);
        desk.addLesson(1, 2, 0, 2, 2);
        desk.setAbsent(0, 1, true);
        desk.setAbsent(1, 1, true);
        is(1, () -> desk.why(0, 0));
        is(2, () -> desk.why(0, 1));
        is(3, () -> desk.why(0, 2));
        is(0, () -> desk.why(0, 3));
        is(2, () -> desk.why(1, 0));
        is(1, () -> desk.why(1, 1));
        desk.cover(0, 3);
        is(4, () -> desk.why(1, 3));
        desk.setLimit(4, 0);
        is(5, () -> desk.why(1, 4));
        refuses(STATE, () -> desk.why(0, 4));
        refuses(STATE, () -> desk.why(2, 4));
        refuses(INDEX, () -> desk.why(3, 0));
        refuses(INDEX, () -> desk.why(2, 5));
        for (int far : FAR) {
            refuses(INDEX, () -> desk.why(far, 0));
            refuses(INDEX, () -> desk.why(1, far));
        }
        refuses(NO_ELEMENT, desk::refusal);
    }

    private static void whyInOrder() {
        SubstituteDesk desk = deskOf(3);
        desk.addLesson(0, 0, 0, 0, 0);
        desk.addLesson(0, 1, 0, 1, 1);
        desk.addLesson(6, 0, 0, 0, 0);
        desk.addLesson(5, 0, 0, 0, 0);
        for (int slot : new int[] {0, 5, 6}) {
            desk.setAbsent(0, slot, true);
        }
        desk.setAbsent(1, 0, true);
        for (int teacher = 0; teacher < 3; teacher++) {
            desk.setLimit(teacher, 0);
        }
        // Own before absent before the limit; absent before a lesson in the slot.
        is(1, () -> desk.why(0, 0));
        is(2, () -> desk.why(0, 1));
        is(5, () -> desk.why(0, 2));
        desk.setLimit(2, 1);
        is(0, () -> desk.why(0, 2));
        desk.cover(0, 2);
        is(4, () -> desk.why(1, 2));
        is(5, () -> desk.why(3, 2));
        // The limit is one of each day.
        is(0, () -> desk.why(2, 2));
        desk.setLimit(2, 2);
        is(0, () -> desk.why(3, 2));
        desk.cover(3, 2);
        desk.setLimit(2, 1);
        is(4, () -> desk.why(1, 2));
        desk.setAbsent(1, 0, false);
        desk.setLimit(1, 0);
        desk.uncover(0);
        is(3, () -> desk.why(0, 1));
        is(5, () -> desk.why(0, 2));
    }

    private static void points() {
        SubstituteDesk desk = new SubstituteDesk();
        desk.addTeacher(1, 1);
        desk.addTeacher(32, 1);
        int[] due = {2, 2, 2, 3, 3, 4};
        for (int period = 0; period < 6; period++) {
            int lesson = desk.addLesson(18 + period, 0, 5, 0, 0);
            int want = due[period];
            is(want + 2, () -> desk.points(lesson, 0));
            is(want, () -> desk.points(lesson, 1));
        }
        refuses(INDEX, () -> desk.points(6, 0));
        refuses(INDEX, () -> desk.points(0, 2));
        for (int far : FAR) {
            refuses(INDEX, () -> desk.points(far, 0));
            refuses(INDEX, () -> desk.points(0, far));
        }
    }

    private static void suggestion() {
        SubstituteDesk desk = new SubstituteDesk();
        desk.addTeacher(1, 1);
        desk.addTeacher(2, 4);
        desk.addTeacher(1, 1);
        desk.addTeacher(1, 1);
        desk.addTeacher(2, 4);
        desk.addLesson(0, 0, 0, 0, 0);
        refuses(STATE, () -> desk.suggestion(0));
        desk.setAbsent(0, 0, true);
        // 2 has the subject, though the share of 1 would be less; 3 has a higher number.
        is(2, () -> desk.suggestion(0));
        desk.setAbsent(2, 0, true);
        is(3, () -> desk.suggestion(0));
        desk.setLimit(3, 0);
        is(1, () -> desk.suggestion(0));
        desk.setAbsent(1, 0, true);
        is(4, () -> desk.suggestion(0));
        desk.setAbsent(4, 0, true);
        refuses(NO_ELEMENT, () -> desk.suggestion(0));
        desk.setLimit(3, 1);
        is(3, () -> desk.suggestion(0));
        desk.cover(0, 3);
        refuses(STATE, () -> desk.suggestion(0));
        refuses(INDEX, () -> desk.suggestion(1));
        for (int far : FAR) {
            refuses(INDEX, () -> desk.suggestion(far));
        }
    }

    private static void suggestionByShare() {
        SubstituteDesk desk = new SubstituteDesk();
        desk.addTeacher(1, 1);
        desk.addTeacher(63, 1);
        desk.addTeacher(63, 2);
        desk.addTeacher(63, 3);
        desk.addLesson(5, 0, 0, 0, 0);
        desk.addLesson(11, 0, 0, 0, 0);
        desk.addLesson(12, 0, 0, 0, 0);
        for (int slot : new int[] {5, 11, 12}) {
            desk.setAbsent(0, slot, true);
        }
        is(3, () -> desk.suggestion(0));
        desk.cover(0, 3);
        // With the cover: 48 for 1, 24 for 2, 32 for 3.
        is(2, () -> desk.suggestion(1));
        desk.cover(1, 2);
        // With the cover: 24 for 1, 36 for 2, 24 for 3.
        is(1, () -> desk.suggestion(2));
    }

    private static void cover() {
        SubstituteDesk desk = new SubstituteDesk();
        desk.addTeacher(63, 1);
        desk.addTeacher(1, 2);
        desk.addTeacher(63, 1);
        desk.addLesson(3, 0, 1, 0, 0);
        desk.addLesson(4, 0, 0, 0, 0);
        desk.addLesson(5, 0, 0, 0, 0);
        refuses(STATE, () -> desk.cover(0, 1));
        for (int slot = 3; slot < 6; slot++) {
            desk.setAbsent(0, slot, true);
        }
        is(5, () -> desk.cover(0, 1));
        is(5, () -> desk.teacher(1, 3));
        is(30, () -> desk.teacher(1, 4));
        is(1, () -> desk.lesson(0, 5));
        is(1, () -> desk.lesson(0, 6));
        refuses(STATE, () -> desk.cover(0, 2));
        is(3, () -> desk.cover(1, 1));
        is(8, () -> desk.teacher(1, 3));
        refuses(UNSUPPORTED, () -> desk.cover(2, 1));
        is(5, desk::refusal);
        is(8, () -> desk.teacher(1, 3));
        is(3, () -> desk.lesson(2, 5));
        desk.setLimit(1, 3);
        is(4, () -> desk.cover(2, 1));
        refuses(INDEX, () -> desk.cover(3, 0));
        refuses(INDEX, () -> desk.cover(0, 3));
        for (int far : FAR) {
            refuses(INDEX, () -> desk.cover(far, 0));
            refuses(INDEX, () -> desk.cover(0, far));
        }
        is(0, desk::audit);
    }

    private static void uncover() {
        SubstituteDesk desk = deskOf(2);
        desk.addLesson(0, 0, 0, 0, 0);
        refuses(STATE, () -> desk.uncover(0));
        desk.setAbsent(0, 0, true);
        refuses(STATE, () -> desk.uncover(0));
        desk.cover(0, 1);
        is(1, () -> desk.uncover(0));
        is(3, () -> desk.lesson(0, 5));
        is(-1, () -> desk.lesson(0, 6));
        is(0, () -> desk.teacher(1, 3));
        is(0, () -> desk.teacher(1, 6));
        is(0, () -> desk.count(6));
        refuses(STATE, () -> desk.uncover(0));
        refuses(INDEX, () -> desk.uncover(1));
        for (int far : FAR) {
            refuses(INDEX, () -> desk.uncover(far));
        }
    }

    private static SubstituteDesk wideDesk(int teachers) {
        SubstituteDesk desk = deskOf(teachers);
        for (int room = 0; room < 6; room++) {
            desk.setCapacity(room, 60);
        }
        for (int k = 0; k < 4; k++) {
            desk.addLesson(15, k, 0, k, k);
        }
        desk.setAbsent(0, 15, true);
        return desk;
    }

    private static void uncoverOfHost() {
        SubstituteDesk desk = wideDesk(5);
        desk.setAbsent(1, 15, true);
        desk.cover(1, 4);
        desk.split(0, 2, 1);
        is(4, () -> desk.uncover(1));
        is(0, () -> desk.count(6));
        is(1, () -> desk.count(7));
        is(3, () -> desk.lesson(0, 5));
        is(3, () -> desk.lesson(1, 5));
        is(0, () -> desk.teacher(4, 3));
        is(0, () -> desk.teacher(2, 3));
        is(0, desk::audit);
    }

    private static void split() {
        SubstituteDesk desk = wideDesk(4);
        desk.addLesson(16, 0, 0, 1, 0);
        desk.setSize(0, 15);
        refuses(STATE, () -> desk.split(1, 2, 3));
        refuses(STATE, () -> desk.split(1, 2, 2));
        refuses(ARGUMENT, () -> desk.split(0, 1, 1));
        refuses(ARGUMENT, () -> desk.split(0, 0, 0));
        refuses(ARGUMENT, () -> desk.split(0, 4, 1));
        refuses(ARGUMENT, () -> desk.split(0, 1, 4));
        // The slot comes before the state of a host.
        refuses(ARGUMENT, () -> desk.split(0, 0, 4));
        refuses(UNSUPPORTED, () -> desk.split(0, 0, 1));
        refuses(UNSUPPORTED, () -> desk.split(0, 1, 0));
        desk.setAbsent(3, 15, true);
        refuses(UNSUPPORTED, () -> desk.split(0, 3, 1));
        refuses(UNSUPPORTED, () -> desk.split(0, 1, 3));
        is(8, () -> desk.split(0, 1, 2));
        is(2, () -> desk.lesson(0, 5));
        is(28, () -> desk.lesson(1, 7));
        is(27, () -> desk.lesson(2, 7));
        is(20, () -> desk.lesson(3, 7));
        is(1, () -> desk.teacher(1, 3));
        is(1, () -> desk.teacher(2, 3));
        is(0, () -> desk.teacher(0, 3));
        is(0, () -> desk.teacher(3, 3));
        refuses(STATE, () -> desk.split(0, 1, 2));
        // A split lesson is no host.
        refuses(UNSUPPORTED, () -> desk.split(3, 0, 1));
        refuses(UNSUPPORTED, () -> desk.split(3, 1, 0));
        is(10, () -> desk.split(3, 2, 1));
        is(2, () -> desk.teacher(1, 3));
        is(38, () -> desk.lesson(1, 7));
        for (int far : new int[] {5, -1, Integer.MIN_VALUE, Integer.MAX_VALUE}) {
            refuses(INDEX, () -> desk.split(far, 1, 2));
            refuses(INDEX, () -> desk.split(0, far, 2));
            refuses(INDEX, () -> desk.split(0, 1, far));
        }
        is(0, desk::audit);
    }

    private static void splitIntoFullRooms() {
        SubstituteDesk desk = wideDesk(4);
        desk.setSize(0, 15);
        desk.setCapacity(1, 27);
        desk.setCapacity(2, 27);
        refuses(UNSUPPORTED, () -> desk.split(0, 1, 2));
        refuses(UNSUPPORTED, () -> desk.split(0, 2, 1));
        desk.setCapacity(1, 28);
        refuses(UNSUPPORTED, () -> desk.split(0, 2, 1));
        is(8, () -> desk.split(0, 1, 2));
        desk.unsplit(0);
        desk.setCapacity(2, 26);
        refuses(UNSUPPORTED, () -> desk.split(0, 1, 2));
        desk.setSize(0, 1);
        desk.setCapacity(1, 21);
        desk.setCapacity(2, 20);
        is(1, () -> desk.split(0, 1, 2));
        is(20, () -> desk.lesson(2, 7));
        is(1, () -> desk.teacher(2, 3));
        // What a host has already counts.
        desk.setAbsent(3, 15, true);
        desk.setSize(3, 1);
        refuses(UNSUPPORTED, () -> desk.split(3, 1, 2));
        desk.setCapacity(1, 22);
        is(1, () -> desk.split(3, 1, 2));
    }

    private static void splitByCoveredHosts() {
        SubstituteDesk desk = wideDesk(6);
        desk.setAbsent(1, 15, true);
        desk.setAbsent(2, 15, true);
        desk.cover(1, 4);
        desk.cover(2, 5);
        is(10, () -> desk.split(0, 1, 2));
        is(0, () -> desk.teacher(1, 3));
        is(0, () -> desk.teacher(2, 3));
        is(4, () -> desk.teacher(4, 3));
        is(4, () -> desk.teacher(5, 3));
        is(20, () -> desk.unsplit(0));
        is(3, () -> desk.teacher(4, 3));
        is(3, () -> desk.teacher(5, 3));
    }

    private static void unsplit() {
        SubstituteDesk desk = wideDesk(4);
        desk.setSize(0, 15);
        refuses(STATE, () -> desk.unsplit(0));
        refuses(STATE, () -> desk.unsplit(1));
        desk.setAbsent(3, 15, true);
        desk.split(0, 1, 2);
        desk.split(3, 1, 2);
        is(15, () -> desk.unsplit(0));
        is(3, () -> desk.lesson(0, 5));
        is(2, () -> desk.lesson(3, 5));
        is(30, () -> desk.lesson(1, 7));
        is(1, () -> desk.teacher(1, 3));
        is(0, () -> desk.count(7));
        refuses(STATE, () -> desk.unsplit(0));
        refuses(INDEX, () -> desk.unsplit(4));
        for (int far : FAR) {
            refuses(INDEX, () -> desk.unsplit(far));
        }
    }

    private static void host() {
        SubstituteDesk desk = wideDesk(4);
        refuses(STATE, () -> desk.host(0, false));
        refuses(STATE, () -> desk.host(1, true));
        desk.split(0, 3, 1);
        is(3, () -> desk.host(0, false));
        is(1, () -> desk.host(0, true));
        refuses(STATE, () -> desk.host(1, false));
        refuses(INDEX, () -> desk.host(4, false));
        for (int far : FAR) {
            refuses(INDEX, () -> desk.host(far, true));
        }
        desk.unsplit(0);
        refuses(STATE, () -> desk.host(0, true));
    }

    private static void refusal() {
        SubstituteDesk desk = deskOf(6);
        desk.addLesson(0, 0, 0, 0, 0);
        desk.addLesson(0, 1, 0, 1, 1);
        desk.addLesson(0, 2, 0, 2, 2);
        refuses(NO_ELEMENT, desk::refusal);
        desk.setAbsent(0, 0, true);
        desk.setAbsent(2, 0, true);
        refuses(INDEX, () -> desk.cover(0, 6));
        refuses(STATE, () -> desk.cover(1, 0));
        refuses(NO_ELEMENT, desk::refusal);
        desk.cover(2, 3);
        desk.setLimit(4, 0);
        for (int teacher = 0; teacher < 5; teacher++) {
            int asked = teacher;
            int reason = new int[] {1, 3, 2, 4, 5}[teacher];
            refuses(UNSUPPORTED, () -> desk.cover(0, asked));
            is(reason, desk::refusal);
            is(reason, desk::refusal);
        }
        is(2, () -> desk.cover(0, 5));
        is(5, desk::refusal);
        desk.undo();
        desk.save();
        desk.restore();
        is(5, desk::refusal);
    }

    private static void coverDay() {
        SubstituteDesk desk = deskOf(4);
        for (int slot : new int[] {17, 16, 12, 18}) {
            desk.addLesson(slot, 0, 0, 0, 0);
            desk.setAbsent(0, slot, true);
        }
        desk.addLesson(12, 1, 0, 1, 1);
        desk.setAbsent(1, 12, true);
        desk.setLimit(1, 0);
        desk.setLimit(2, 1);
        desk.setLimit(3, 1);
        is(0, () -> desk.coverDay(0));
        // Slot 12 first, lesson 2 before lesson 4; nobody is left for slots 16 and 17.
        is(2, () -> desk.coverDay(2));
        is(2, () -> desk.lesson(2, 6));
        is(3, () -> desk.lesson(4, 6));
        is(3, () -> desk.lesson(0, 5));
        is(3, () -> desk.lesson(1, 5));
        is(3, () -> desk.lesson(3, 5));
        is(0, () -> desk.coverDay(2));
        is(1, () -> desk.coverDay(3));
        refuses(INDEX, () -> desk.coverDay(5));
        for (int far : FAR) {
            refuses(INDEX, () -> desk.coverDay(far));
        }
        refuses(NO_ELEMENT, desk::refusal);
        is(0, desk::audit);
    }

    private static void coverDayGoesByShares() {
        SubstituteDesk desk = new SubstituteDesk();
        desk.addTeacher(63, 1);
        desk.addTeacher(63, 1);
        desk.addTeacher(63, 4);
        for (int slot = 0; slot < 6; slot++) {
            desk.addLesson(slot, 0, 0, 0, 0);
            desk.setAbsent(0, slot, true);
        }
        desk.setLimit(2, 3);
        is(5, () -> desk.coverDay(0));
        // With the cover the share of 2 is 6, 12, 18: less than 24 of 1. Then only 1 is left, up to its limit.
        int[] due = {2, 2, 2, 1, 1, -1};
        for (int lesson = 0; lesson < 6; lesson++) {
            int asked = lesson;
            is(due[lesson], () -> desk.lesson(asked, 6));
        }
        is(6, () -> desk.teacher(2, 3));
        is(6, () -> desk.teacher(1, 3));
    }
}
