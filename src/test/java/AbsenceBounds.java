/** The sentences of the description on what ends, and those of promises 14 to 19. */
final class AbsenceBounds extends Bounds {
    static void run() {
        becomingAbsent();
        comingBack();
        actingTeacherChanges();
        hostsOfSeveral();
        atOnce();
        undoneOnes();
        setAbsent();
        setAbsentRefused();
        absent();
        free();
        freeRooms();
        openOn();
        open();
    }

    private static void becomingAbsent() {
        about(0, "When a teacher becomes absent in a slot, the own lesson in it becomes open");
        // Teacher 1 has lessons in slots 7 and 9 and covers in slots 6 and 8; only what is in the slot ends.
        SubstituteDesk desk = deskOf(2);
        desk.setLimit(1, 3);
        for (int k : upTo(4)) {
            desk.addLesson(6 + k, 0, 0, k % 2, 0);
        }
        desk.setAbsent(0, 6, true);
        desk.setAbsent(0, 8, true);
        desk.cover(0, 1);
        desk.cover(2, 1);
        is(0, () -> desk.setAbsent(1, 7, true));
        states(desk, 1, 3, 1, 0);
        is(1, () -> desk.setAbsent(1, 8, true));
        states(desk, 1, 3, 3, 0);
        is(0, () -> desk.setAbsent(1, 10, true));
        is(0, () -> desk.setAbsent(1, 5, true));
        is(0, () -> desk.setAbsent(1, 2, true));
        states(desk, 1, 3, 3, 0);
        is(2, () -> desk.teacher(1, 3));
        is(0, () -> desk.setAbsent(0, 7, true));
        is(0, () -> desk.setAbsent(1, 9, true));
        states(desk, 1, 3, 3, 3);
        is(1, () -> desk.setAbsent(1, 6, true));
        states(desk, 3, 3, 3, 3);
        is(0, () -> desk.teacher(1, 3));
    }

    private static void states(SubstituteDesk desk, int... due) {
        for (int lesson : upTo(due.length)) {
            is(due[lesson], () -> desk.lesson(lesson, 5));
        }
    }

    private static void comingBack() {
        about(0, "When a teacher is no longer absent in a slot, a cover or splitting of the own lesson in it ends");
        SubstituteDesk covered = RICH.desk();
        is(2, () -> covered.setAbsent(1, 9, false));
        states(covered, 3, 0, 0, 0, 3, 3, 0);
        SubstituteDesk split = RICH.desk();
        is(1, () -> split.setAbsent(0, 9, false));
        states(split, 0, 1, 0, 0, 3, 3, 0);
        is(3, () -> split.teacher(5, 3));
        is(0, () -> split.teacher(2, 3));
        SubstituteDesk open = RICH.desk();
        is(0, () -> open.setAbsent(4, 9, false));
        states(open, 2, 1, 0, 0, 0, 3, 0);
        is(0, () -> open.setAbsent(0, 10, false));
        states(open, 2, 1, 0, 0, 0, 0, 0);
        SubstituteDesk without = RICH.desk();
        is(0, () -> without.setAbsent(6, 9, false));
        states(without, 2, 1, 0, 0, 3, 3, 0);
    }

    /** Slot 0: 0 and 1 are absent, 1 is covered by 4 and hosts 0 beside 2; the order of the hosts as told. */
    private static SubstituteDesk hosted(boolean isSecond) {
        SubstituteDesk desk = slotDesk(0, 6, 4, 2);
        desk.cover(1, 4);
        desk.split(0, isSecond ? 2 : 1, isSecond ? 1 : 2);
        return desk;
    }

    private static void actingTeacherChanges() {
        about(0, "When the acting teacher of a lesson changes, or there is none any more, the splittings end");
        for (boolean isSecond : new boolean[] {false, true}) {
            SubstituteDesk taughtHost = hosted(isSecond);
            is(1, () -> taughtHost.setAbsent(2, 0, true));
            endedWith(taughtHost, 2, 0, 1);
            SubstituteDesk coveredHost = hosted(isSecond);
            is(2, () -> coveredHost.setAbsent(4, 0, true));
            endedWith(coveredHost, 0, 1, 1);
            SubstituteDesk ownTeacherBack = hosted(isSecond);
            is(2, () -> ownTeacherBack.setAbsent(1, 0, false));
            endedWith(ownTeacherBack, 0, 1, 1);
            is(0, () -> ownTeacherBack.lesson(1, 5));
            SubstituteDesk uncovered = hosted(isSecond);
            is(4, () -> uncovered.uncover(1));
            endedWith(uncovered, 0, 0, 1);
            SubstituteDesk removed = hosted(isSecond);
            is(3, () -> removed.removeLesson(2));
            endedWith(removed, 2, 0, 1);
            // What changes beside the hosts ends nothing.
            SubstituteDesk other = hosted(isSecond);
            other.setAbsent(3, 0, true);
            other.setAbsent(5, 0, true);
            other.setAbsent(2, 1, true);
            other.setAbsent(4, 1, true);
            other.setRoom(2, 5);
            other.setLimit(4, 0);
            is(2, () -> other.lesson(0, 5));
            is(1, () -> other.teacher(2, 3));
            is(0, () -> other.count(7));
        }
    }

    private static void endedWith(SubstituteDesk desk, int coverPoints, int undoneCovers, int undoneSplits) {
        is(3, () -> desk.lesson(0, 5));
        is(20, () -> desk.lesson(1, 7));
        is(20, () -> desk.lesson(2, 7));
        is(coverPoints, () -> desk.teacher(4, 3));
        is(0, () -> desk.teacher(1, 3));
        is(0, () -> desk.teacher(2, 3));
        is(undoneCovers, () -> desk.count(6));
        is(undoneSplits, () -> desk.count(7));
        refuses(STATE, () -> desk.host(0, false));
        is(0, desk::audit);
    }

    /** 4 and 5 host all of 0 to 3, whose classes have 10 each; 4 is covered by 6. */
    private static SubstituteDesk manyHosted() {
        SubstituteDesk desk = slotDesk(29, 8, 6, 5);
        for (int k : upTo(6)) {
            desk.setSize(k, 10);
        }
        desk.cover(4, 6);
        for (int k : upTo(4)) {
            desk.split(k, 4 + k % 2, 5 - k % 2);
        }
        return desk;
    }

    private static void hostsOfSeveral() {
        for (int how : upTo(4)) {
            SubstituteDesk desk = manyHosted();
            is(4, () -> desk.count(4));
            is(8, () -> desk.teacher(6, 3));
            is(4, () -> desk.teacher(5, 3));
            is(30, () -> desk.lesson(4, 7));
            if (how == 0) {
                is(5, () -> desk.setAbsent(6, 29, true));
            } else if (how == 1) {
                is(5, () -> desk.setAbsent(4, 29, false));
            } else if (how == 2) {
                is(4, () -> desk.setAbsent(5, 29, true));
            } else {
                is(5, () -> desk.removeLesson(5));
            }
            is(0, () -> desk.count(4));
            is(4, () -> desk.count(7));
            is(how < 2 ? 1 : 0, () -> desk.count(6));
            is(how < 2 ? 0 : 4, () -> desk.teacher(6, 3));
            is(0, () -> desk.teacher(5, 3));
            is(10, () -> desk.lesson(4, 7));
        }
        // One splitting ends with its host, the other two stay with theirs.
        SubstituteDesk desk = slotDesk(29, 8, 6, 3);
        desk.split(0, 3, 4);
        desk.split(1, 4, 5);
        desk.split(2, 5, 4);
        is(1, () -> desk.setAbsent(3, 29, true));
        states(desk, 3, 2, 2, 3, 0, 0);
        is(2, () -> desk.teacher(4, 3));
        is(2, () -> desk.teacher(5, 3));
        is(40, () -> desk.lesson(4, 7));
    }

    private static void atOnce() {
        about(0, "All of that happens at once, within the same call.");
        SubstituteDesk desk = manyHosted();
        is(5, () -> desk.setAbsent(6, 29, true));
        states(desk, 3, 3, 3, 3, 3, 0);
        is(7, desk::undo);
        states(desk, 2, 2, 2, 2, 1, 0);
        is(8, () -> desk.teacher(6, 3));
        is(4, () -> desk.teacher(5, 3));
        is(0, () -> desk.count(7));
    }

    private static void undoneOnes() {
        about(0, "Each end of a cover or splitting is counted as an undone one");
        undone(RICH.desk(), d -> d.setAbsent(5, 9, true), 2, 2);
        undone(RICH.desk(), d -> d.setAbsent(2, 9, true), 1, 2);
        undone(RICH.desk(), d -> d.setAbsent(0, 9, false), 1, 2);
        undone(RICH.desk(), d -> d.setAbsent(1, 9, false), 2, 2);
        undone(RICH.desk(), d -> d.removeLesson(0), 1, 2);
        undone(RICH.desk(), d -> d.removeLesson(1), 2, 2);
        undone(RICH.desk(), d -> d.removeLesson(2), 1, 2);
        undone(RICH.desk(), d -> d.removeLesson(3), 1, 1);
        // The cover that uncover ends is not counted, but the splitting of its lesson is.
        undone(RICH.desk(), d -> d.uncover(1), 1, 2);
        undone(RICH.desk(), d -> d.unsplit(0), 1, 1);
        SubstituteDesk desk = RICH.desk();
        desk.unsplit(0);
        undone(desk, d -> d.uncover(1), 1, 1);
        undone(manyHosted(), d -> d.uncover(4), 0, 4);
        undone(RICH.desk(), d -> readText(d, "5@9;"), 2, 2);
    }

    private static void undone(SubstituteDesk desk, Act act, int covers, int splits) {
        act.on(desk);
        is(covers, () -> desk.count(6));
        is(splits, () -> desk.count(7));
        is(0, desk::audit);
    }

    private static void setAbsent() {
        about(14, "Makes a teacher absent in a slot, or no longer absent.");
        SubstituteDesk desk = deskOf(2);
        desk.setAbsent(1, 17, true);
        is(32, () -> desk.absent(1, 2));
        is(0, () -> desk.absent(0, 2));
        desk.setAbsent(1, 17, false);
        is(0, () -> desk.absent(1, 2));
        about(14, "- slot: the slot, 0 to 29");
        is(0, () -> desk.setAbsent(1, 0, true));
        is(0, () -> desk.setAbsent(1, 29, true));
        is(1, () -> desk.absent(1, 0));
        is(32, () -> desk.absent(1, 4));
        about(14, "- isAbsent: true if the teacher is absent then");
        for (int slot : upTo(30)) {
            SubstituteDesk one = deskOf(1);
            one.setAbsent(0, slot, true);
            is(1 << slot % 6, () -> one.absent(0, slot / 6));
            one.setAbsent(0, slot, false);
            is(0, () -> one.absent(0, slot / 6));
        }
        about(14, "Returns the number of all covers and splittings that end within this call.");
        is(0, () -> RICH.desk().setAbsent(3, 9, true));
        is(1, () -> RICH.desk().setAbsent(2, 9, true));
        is(2, () -> RICH.desk().setAbsent(5, 9, true));
        is(0, () -> RICH.desk().setAbsent(5, 10, true));
        is(0, () -> RICH.desk().setAbsent(6, 9, false));
        is(1, () -> RICH.desk().setAbsent(0, 9, false));
        is(2, () -> RICH.desk().setAbsent(1, 9, false));
        is(4, () -> manyHosted().setAbsent(5, 29, true));
        is(5, () -> manyHosted().setAbsent(6, 29, true));
        is(5, () -> manyHosted().setAbsent(4, 29, false));
    }

    private static void setAbsentRefused() {
        about(14, "Throws IndexOutOfBoundsException if there is no such teacher or slot");
        for (boolean isAbsent : new boolean[] {false, true}) {
            outside(INDEX, RICH, 0, 6, (d, teacher) -> d.setAbsent(teacher, 9, isAbsent));
            outside(INDEX, RICH, 0, 29, (d, slot) -> d.setAbsent(0, slot, isAbsent));
            untouched(INDEX, BARE, d -> d.setAbsent(0, 0, isAbsent));
        }
        outside(INDEX, FULL, 0, 7, (d, teacher) -> d.setAbsent(teacher, 0, true));
        is(0, () -> FULL.desk().setAbsent(7, 29, true));
        about(14, "Throws IllegalStateException if the teacher is already so");
        untouched(STATE, RICH, d -> d.setAbsent(0, 9, true));
        untouched(STATE, RICH, d -> d.setAbsent(1, 9, true));
        untouched(STATE, RICH, d -> d.setAbsent(4, 9, true));
        untouched(STATE, RICH, d -> d.setAbsent(6, 9, true));
        untouched(STATE, RICH, d -> d.setAbsent(2, 9, false));
        untouched(STATE, RICH, d -> d.setAbsent(5, 9, false));
        untouched(STATE, RICH, d -> d.setAbsent(0, 0, false));
        untouched(STATE, RICH, d -> d.setAbsent(0, 29, false));
        SubstituteDesk desk = deskOf(1);
        for (int slot : new int[] {0, 5, 6, 29}) {
            refuses(STATE, () -> desk.setAbsent(0, slot, false));
            is(0, () -> desk.setAbsent(0, slot, true));
            refuses(STATE, () -> desk.setAbsent(0, slot, true));
            is(0, () -> desk.setAbsent(0, slot, false));
            refuses(STATE, () -> desk.setAbsent(0, slot, false));
        }
    }

    private static void absent() {
        about(15, "Returns the periods of a day in which a teacher is absent.");
        onlyAnswers(8 + 16, RICH, d -> d.absent(0, 1));
        is(8, () -> RICH.desk().absent(1, 1));
        is(0, () -> RICH.desk().absent(2, 1));
        is(8, () -> RICH.desk().absent(6, 1));
        about(15, "- day: the day, 0 to 4");
        is(0, () -> RICH.desk().absent(0, 0));
        is(0, () -> RICH.desk().absent(0, 2));
        is(0, () -> RICH.desk().absent(0, 4));
        about(15, "Returns the set of periods.");
        SubstituteDesk desk = deskOf(1);
        int periods = 0;
        for (int period : upTo(6)) {
            desk.setAbsent(0, 24 + period, true);
            periods |= 1 << period;
            int due = periods;
            is(due, () -> desk.absent(0, 4));
            is(0, () -> desk.absent(0, 3));
        }
        desk.setAbsent(0, 0, true);
        is(1, () -> desk.absent(0, 0));
        is(63, () -> desk.absent(0, 4));
        about(15, "Throws IndexOutOfBoundsException if there is no such teacher or day");
        outside(INDEX, RICH, 0, 6, (d, teacher) -> d.absent(teacher, 1));
        outside(INDEX, RICH, 0, 4, (d, day) -> d.absent(0, day));
        untouched(INDEX, BARE, d -> d.absent(0, 0));
    }

    private static void free() {
        about(16, "Returns the periods of a day in which a teacher is not absent, has no lesson, and covers none.");
        // In period 3 nobody is free: 0, 1, 4 and 6 are absent, 2 and 3 have a lesson, 5 covers one.
        int[] due = {63 - 8 - 16, 63 - 8, 63 - 8, 63 - 8, 63 - 8, 63 - 8, 63 - 8};
        for (int teacher : upTo(7)) {
            onlyAnswers(due[teacher], RICH, d -> d.free(teacher, 1));
        }
        SubstituteDesk desk = RICH.desk();
        desk.uncover(1);
        is(63, () -> desk.free(5, 1));
        desk.setAbsent(0, 9, false);
        is(63 - 8 - 16, () -> desk.free(0, 1));
        desk.removeLesson(0);
        is(63 - 16, () -> desk.free(0, 1));
        desk.setAbsent(6, 9, false);
        is(63, () -> desk.free(6, 1));
        about(16, "- day: the day, 0 to 4");
        is(63, () -> RICH.desk().free(3, 0));
        is(31, () -> RICH.desk().free(3, 4));
        is(63, () -> RICH.desk().free(5, 4));
        about(16, "Returns the set of periods.");
        is(0, () -> FULL.desk().free(0, 0));
        is(63 - 15, () -> FULL.desk().free(3, 1));
        is(63, () -> FULL.desk().free(4, 0));
        about(16, "Throws IndexOutOfBoundsException if there is no such teacher or day");
        outside(INDEX, RICH, 0, 6, (d, teacher) -> d.free(teacher, 1));
        outside(INDEX, RICH, 0, 4, (d, day) -> d.free(0, day));
        untouched(INDEX, BARE, d -> d.free(0, 0));
    }

    private static void freeRooms() {
        about(17, "Returns the rooms that no lesson has in a slot, in whatever state lessons are.");
        onlyAnswers(32, RICH, d -> d.freeRooms(9));
        is(62, () -> RICH.desk().freeRooms(10));
        SubstituteDesk desk = slotDesk(3, 7, 6, 0);
        is(0, () -> desk.freeRooms(3));
        desk.setAbsent(0, 3, true);
        is(0, () -> desk.freeRooms(3));
        desk.cover(0, 6);
        is(0, () -> desk.freeRooms(3));
        desk.uncover(0);
        desk.split(0, 1, 2);
        is(0, () -> desk.freeRooms(3));
        about(17, "- slot: the slot, 0 to 29");
        is(31, () -> RICH.desk().freeRooms(29));
        is(63, () -> RICH.desk().freeRooms(0));
        is(48, () -> FULL.desk().freeRooms(0));
        about(17, "Returns the set of rooms.");
        for (int room = 5; room >= 0; room--) {
            desk.removeLesson(room);
            int due = 63 & -1 << room;
            is(due, () -> desk.freeRooms(3));
        }
        is(63, () -> BARE.desk().freeRooms(29));
        about(17, "Throws IndexOutOfBoundsException if there is no such slot");
        outside(INDEX, RICH, 0, 29, SubstituteDesk::freeRooms);
    }

    private static void openOn() {
        about(18, "Returns the number of open lessons of a day.");
        onlyAnswers(2, RICH, d -> d.openOn(1));
        onlyAnswers(5, CROWDED, d -> d.openOn(2));
        is(0, () -> BARE.desk().openOn(2));
        about(18, "- day: the day, 0 to 4");
        is(0, () -> CROWDED.desk().openOn(0));
        is(0, () -> CROWDED.desk().openOn(4));
        about(18, "Returns the number.");
        SubstituteDesk desk = CROWDED.desk();
        is(0, () -> desk.openOn(1));
        is(0, () -> desk.openOn(3));
        desk.addLesson(17, 0, 0, 0, 0);
        desk.addLesson(11, 0, 0, 0, 0);
        desk.addLesson(18, 0, 0, 0, 0);
        is(5, () -> desk.openOn(2));
        for (int slot : new int[] {11, 17, 18}) {
            desk.setAbsent(0, slot, true);
        }
        is(1, () -> desk.openOn(1));
        is(6, () -> desk.openOn(2));
        is(1, () -> desk.openOn(3));
        about(18, "Throws IndexOutOfBoundsException if there is no such day");
        outside(INDEX, CROWDED, 0, 4, SubstituteDesk::openOn);
        untouched(INDEX, BARE, d -> d.openOn(5));
    }

    private static void open() {
        about(19, "Returns an open lesson of a day.");
        onlyAnswers(4, RICH, d -> d.open(1, 0));
        onlyAnswers(5, RICH, d -> d.open(1, 1));
        about(19, "- day: the day, 0 to 4");
        SubstituteDesk ends = openDesk(1, 29, 24, 5, 0);
        is(3, () -> ends.open(0, 0));
        is(2, () -> ends.open(0, 1));
        is(1, () -> ends.open(4, 0));
        is(0, () -> ends.open(4, 1));
        about(19, "- index: the index in ascending order of the slots, and of equal ones of the numbers, from 0");
        SubstituteDesk desk = wideDesk(4);
        int[][] lessons = {{16, 3}, {16, 1}, {14, 2}, {16, 2}, {14, 0}, {17, 0}};
        for (int[] pair : lessons) {
            desk.addLesson(pair[0], pair[1], 0, pair[1], pair[1]);
            desk.setAbsent(pair[1], pair[0], true);
        }
        int[] due = {2, 4, 0, 1, 3, 5};
        // What is open just before or behind the day does not count.
        desk.addLesson(11, 0, 0, 0, 0);
        desk.addLesson(18, 0, 0, 0, 0);
        desk.setAbsent(0, 11, true);
        desk.setAbsent(0, 18, true);
        for (int index : upTo(6)) {
            is(due[index], () -> desk.open(2, index));
        }
        refuses(NO_ELEMENT, () -> desk.open(2, 6));
        about(19, "Returns the number of the lesson.");
        desk.removeLesson(0);
        int[] later = {1, 3, 0, 2, 4};
        for (int index : upTo(5)) {
            is(later[index], () -> desk.open(2, index));
        }
        about(19, "Throws IndexOutOfBoundsException if there is no such day");
        outside(INDEX, CROWDED, 0, 4, (d, day) -> d.open(day, 0));
        about(19, "Throws NoSuchElementException if there is no such lesson");
        refuses(NO_ELEMENT, () -> desk.open(2, 5));
        is(4, () -> CROWDED.desk().open(2, 4));
        outside(NO_ELEMENT, CROWDED, 0, 4, (d, index) -> d.open(2, index));
        outside(NO_ELEMENT, RICH, 0, 1, (d, index) -> d.open(1, index));
        untouched(NO_ELEMENT, CROWDED, d -> d.open(1, 0));
        untouched(NO_ELEMENT, BARE, d -> d.open(0, 0));
    }
}
