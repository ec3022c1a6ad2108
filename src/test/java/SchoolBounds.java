/** The sentences of the description on the week, the teachers and the lessons, and those of promises 1 to 13. */
final class SchoolBounds extends Bounds {
    static void run() {
        week();
        sizesAndCapacities();
        teachers();
        shares();
        lessons();
        states();
        newDesk();
        clear();
        addTeacher();
        setLimit();
        setSize();
        setSizeAndLoads();
        setCapacity();
        addLesson();
        addLessonCollides();
        addLessonWhenFull();
        removeLesson();
        removeLessonEnds();
        setRoom();
        count();
        lesson();
        teacher();
        lessonOf();
    }

    private static void week() {
        about(0, "There are 5 days with 6 periods each");
        SubstituteDesk desk = deskOf(1);
        for (int slot : upTo(30)) {
            is(0, () -> desk.setAbsent(0, slot, true));
            for (int day : upTo(5)) {
                is(day == slot / 6 ? 1 << slot % 6 : 0, () -> desk.absent(0, day));
            }
            desk.setAbsent(0, slot, false);
        }
        is(63, () -> desk.freeRooms(0));
        is(63, () -> desk.freeRooms(29));
        outside(INDEX, RICH, 0, 29, SubstituteDesk::freeRooms);
        is(0, () -> desk.openOn(0));
        is(0, () -> desk.openOn(4));
        outside(INDEX, RICH, 0, 4, SubstituteDesk::openOn);
        about(0, "There are 6 subjects, 6 classes and 6 rooms");
        SubstituteDesk other = deskOf(6);
        for (int k : upTo(6)) {
            is(k, () -> other.addLesson(0, k, k, k, k));
            is(k, () -> other.lesson(k, 1));
            is(k, () -> other.lesson(k, 2));
            is(k, () -> other.lesson(k, 4));
        }
        is(0, () -> other.freeRooms(0));
        outside(ARGUMENT, RICH, 0, 5, (d, number) -> d.addLesson(20, number, 0, 0, 0));
        outside(ARGUMENT, RICH, 0, 5, (d, subject) -> d.addLesson(20, 0, subject, 0, 0));
        outside(ARGUMENT, RICH, 0, 5, (d, room) -> d.addLesson(20, 0, 0, 0, room));
    }

    private static void sizesAndCapacities() {
        about(0, "A class has a size from 1 to 30, at first 20; a room has a capacity from 10 to 60, at first 30.");
        SubstituteDesk desk = new SubstituteDesk();
        for (int k : upTo(6)) {
            is(20, () -> desk.setSize(k, 1));
            is(1, () -> desk.setSize(k, 30));
            is(30, () -> desk.setSize(k, 30));
            is(30, () -> desk.setCapacity(k, 10));
            is(10, () -> desk.setCapacity(k, 60));
            is(60, () -> desk.setCapacity(k, 60));
        }
        outside(ARGUMENT, RICH, 1, 30, (d, size) -> d.setSize(3, size));
        outside(ARGUMENT, RICH, 10, 60, (d, capacity) -> d.setCapacity(3, capacity));
    }

    private static void teachers() {
        about(0, "There are at most 8 teachers");
        SubstituteDesk desk = new SubstituteDesk();
        for (int k : upTo(8)) {
            is(k, () -> desk.addTeacher(k + 1, 1));
        }
        for (int k : upTo(8)) {
            is(k + 1, () -> desk.teacher(k, 0));
        }
        untouched(STATE, FULL, d -> d.addTeacher(63, 1));
        about(0, "A teacher has a set of subjects, a weight from 1 to 4, a limit of covers a day from 0 to 3");
        SubstituteDesk other = new SubstituteDesk();
        for (int k : upTo(4)) {
            is(k, () -> other.addTeacher(40 + k, k + 1));
            is(40 + k, () -> other.teacher(k, 0));
            is(k + 1, () -> other.teacher(k, 1));
            is(2, () -> other.teacher(k, 2));
            is(0, () -> other.teacher(k, 3));
            for (int day : upTo(5)) {
                is(0, () -> other.absent(k, day));
            }
            is(2, () -> other.setLimit(k, k));
            is(k, () -> other.teacher(k, 2));
        }
        outside(ARGUMENT, RICH, 1, 4, (d, weight) -> d.addTeacher(63, weight));
        outside(ARGUMENT, RICH, 0, 3, (d, limit) -> d.setLimit(6, limit));
    }

    private static void shares() {
        about(0, "The share of a teacher is 12 times the points divided by the weight");
        SubstituteDesk desk = new SubstituteDesk();
        int[] weights = {1, 1, 2, 3, 4, 1};
        for (int k : upTo(6)) {
            desk.addTeacher(63, weights[k]);
            desk.setCapacity(k, 60);
            desk.addLesson(0, k, 0, k, k);
        }
        desk.setAbsent(0, 0, true);
        desk.setAbsent(5, 0, true);
        desk.split(0, 1, 2);
        desk.split(5, 3, 4);
        int[] due = {0, 12, 6, 4, 3, 0};
        for (int k : upTo(6)) {
            is(due[k], () -> desk.teacher(k, 4));
        }
        desk.addLesson(5, 0, 0, 0, 0);
        desk.setAbsent(0, 5, true);
        desk.cover(6, 3);
        is(20, () -> desk.teacher(3, 4));
        about(0, "The spread is the greatest share of a teacher minus the least one.");
        is(20, desk::spread);
        desk.uncover(6);
        is(12, desk::spread);
        desk.unsplit(0);
        is(4, desk::spread);
        // The least share is not always 0.
        SubstituteDesk two = mutualDesk();
        is(48 - 24, two::spread);
        desk.unsplit(5);
        is(0, desk::spread);
    }

    private static void lessons() {
        about(0, "There are at most 40 lessons");
        SubstituteDesk desk = deskOf(2);
        for (int k : upTo(40)) {
            is(k, () -> desk.addLesson(k / 2, k % 2, 0, k % 2, k % 2));
        }
        for (int k : upTo(40)) {
            is(k / 2, () -> desk.lesson(k, 0));
            is(k % 2, () -> desk.lesson(k, 1));
        }
        untouched(STATE, FULL, d -> d.addLesson(10, 0, 0, 0, 0));
        about(0, "A lesson has a slot, a class, a subject, a teacher and a room.");
        SubstituteDesk other = deskOf(5);
        other.addLesson(13, 1, 2, 4, 3);
        int[] due = {13, 1, 2, 4, 3};
        for (int what : upTo(5)) {
            is(due[what], () -> other.lesson(0, what));
        }
        about(0, "In a slot, each class, each teacher and each room has at most one lesson.");
        SubstituteDesk slot = deskOf(7);
        for (int k : upTo(6)) {
            is(k, () -> slot.addLesson(29, k, 0, k, 5 - k));
        }
        for (int k : upTo(6)) {
            refuses(UNSUPPORTED, () -> slot.addLesson(29, k, 0, 6, k));
        }
        is(6, () -> slot.addLesson(28, 0, 0, 0, 5));
        untouched(UNSUPPORTED, RICH, d -> d.addLesson(9, 3, 0, 6, 5));
        untouched(UNSUPPORTED, RICH, d -> d.addLesson(9, 5, 0, 3, 5));
        untouched(UNSUPPORTED, RICH, d -> d.addLesson(9, 5, 0, 6, 3));
        untouched(STATE, RICH, d -> d.setRoom(3, 2));
    }

    private static void states() {
        about(0, "A lesson is taught if its teacher is not absent in its slot; otherwise it is covered");
        SubstituteDesk desk = slotDesk(11, 4, 3, 0);
        is(0, () -> desk.lesson(0, 5));
        desk.setAbsent(0, 10, true);
        desk.setAbsent(0, 12, true);
        is(0, () -> desk.lesson(0, 5));
        desk.setAbsent(0, 11, true);
        is(3, () -> desk.lesson(0, 5));
        desk.cover(0, 3);
        is(1, () -> desk.lesson(0, 5));
        desk.uncover(0);
        desk.split(0, 1, 2);
        is(2, () -> desk.lesson(0, 5));
        about(0, "The acting teacher of a lesson is its teacher if it is taught");
        is(-1, () -> desk.lesson(0, 6));
        is(1, () -> desk.lesson(1, 6));
        is(2, () -> desk.lesson(2, 6));
        desk.unsplit(0);
        is(-1, () -> desk.lesson(0, 6));
        desk.cover(0, 3);
        is(3, () -> desk.lesson(0, 6));
        desk.setAbsent(0, 11, false);
        is(0, () -> desk.lesson(0, 6));
    }

    private static void newDesk() {
        about(1, "Creates a desk without teachers and lessons.");
        for (int what : upTo(8)) {
            is(0, () -> BARE.desk().count(what));
        }
        untouched(INDEX, BARE, d -> d.teacher(0, 0));
        untouched(INDEX, BARE, d -> d.lesson(0, 0));
        untouched(NO_ELEMENT, BARE, SubstituteDesk::spread);
        untouched(NO_ELEMENT, BARE, SubstituteDesk::undo);
        untouched(NO_ELEMENT, BARE, SubstituteDesk::refusal);
        untouched(NO_ELEMENT, BARE, SubstituteDesk::errorPosition);
        untouched(STATE, BARE, SubstituteDesk::restore);
        untouched(NO_ELEMENT, BARE, d -> d.lessonOf(0, 0));
        is(1, () -> BARE.desk().append('t'));
    }

    private static void clear() {
        about(2, "Removes all teachers and lessons, and makes sizes, capacities and counts what they are at first.");
        // What is not of the school stays: the input, the error position, the reason and what was saved.
        leavesAlike("7.0", RICH, BARE, SubstituteDesk::clear,
                Looks.KEPT, Looks.INPUT, Looks.INPUT_THAT_GOES_ON, Looks.SAVED);
        leavesAlike("40.0", FULL, BARE, SubstituteDesk::clear, Looks.INPUT, Looks.INPUT_THAT_GOES_ON);
        leavesAlike("0.0", BARE, BARE, SubstituteDesk::clear);
        leavesAlike("0.0", () -> {
            SubstituteDesk desk = new SubstituteDesk();
            for (int k : upTo(6)) {
                desk.setSize(k, 3);
                desk.setCapacity(k, 13);
            }
            return desk;
        }, BARE, SubstituteDesk::clear);
        // A desk that was used before and cleared is as a new one, whatever is done with it then.
        for (boolean isCovered : new boolean[] {false, true}) {
            leavesAlike("0.0", () -> used(isCovered), RICH, d -> 0);
        }
        SubstituteDesk desk = RICH.desk();
        desk.clear();
        is(1, desk::refusal);
        is(3, desk::errorPosition);
        is(7, () -> desk.append('0'));
        is(7, desk::restore);
        about(2, "Returns the number of lessons that there were.");
        is(0, () -> BARE.desk().clear());
        is(0, () -> deskOf(8).clear());
        is(40, () -> FULL.desk().clear());
        SubstituteDesk other = RICH.desk();
        other.removeLesson(0);
        is(6, other::clear);
        is(0, other::clear);
    }

    private static void addTeacher() {
        about(3, "Adds a teacher.");
        SubstituteDesk desk = RICH.desk();
        is(7, () -> desk.addTeacher(9, 3));
        is(8, () -> desk.count(0));
        int[] due = {9, 3, 2, 0, 0, 0, 0, 0};
        for (int what : upTo(8)) {
            is(due[what], () -> desk.teacher(7, what));
        }
        about(3, "- weight: the weight, 1 to 4");
        SubstituteDesk other = new SubstituteDesk();
        is(0, () -> other.addTeacher(1, 1));
        is(1, () -> other.addTeacher(1, 4));
        is(1, () -> other.teacher(0, 1));
        is(4, () -> other.teacher(1, 1));
        about(3, "Returns the number of the teacher.");
        for (int k : upTo(6)) {
            is(k + 2, () -> other.addTeacher(1, 1));
        }
        other.undo();
        is(7, () -> other.addTeacher(2, 1));
        other.clear();
        is(0, () -> other.addTeacher(2, 1));
        about(3, "Throws IllegalArgumentException if subjects is not from 1 to 63, or weight is out of range");
        is(1, () -> other.addTeacher(1, 1));
        is(2, () -> other.addTeacher(63, 1));
        is(1, () -> other.teacher(1, 0));
        is(63, () -> other.teacher(2, 0));
        outside(ARGUMENT, RICH, 1, 63, (d, subjects) -> d.addTeacher(subjects, 1));
        outside(ARGUMENT, RICH, 1, 4, (d, weight) -> d.addTeacher(1, weight));
        outside(ARGUMENT, BARE, 1, 63, (d, subjects) -> d.addTeacher(subjects, 1));
        about(3, "Throws IllegalStateException if there are 8 teachers");
        untouched(STATE, FULL, d -> d.addTeacher(1, 1));
        SubstituteDesk eight = deskOf(8);
        refuses(STATE, () -> eight.addTeacher(1, 1));
        eight.undo();
        is(7, () -> eight.addTeacher(1, 1));
        refuses(STATE, () -> eight.addTeacher(1, 1));
    }

    private static void setLimit() {
        about(4, "Sets the limit of covers a day of a teacher.");
        SubstituteDesk desk = deskOf(3);
        desk.setLimit(1, 3);
        is(2, () -> desk.teacher(0, 2));
        is(3, () -> desk.teacher(1, 2));
        is(2, () -> desk.teacher(2, 2));
        about(4, "- limit: the limit, 0 to 3");
        for (int limit : upTo(4)) {
            desk.setLimit(0, limit);
            is(limit, () -> desk.teacher(0, 2));
        }
        about(4, "Returns the previous limit.");
        is(3, () -> desk.setLimit(0, 0));
        is(0, () -> desk.setLimit(0, 0));
        is(0, () -> desk.setLimit(0, 1));
        is(2, () -> desk.setLimit(2, 2));
        about(4, "Covers that there are stay.");
        SubstituteDesk crowded = CROWDED.desk();
        crowded.cover(0, 1);
        crowded.cover(1, 1);
        is(2, () -> crowded.setLimit(1, 0));
        is(2, () -> crowded.teacher(1, 6));
        is(4, () -> crowded.teacher(1, 3));
        is(0, () -> crowded.count(6));
        is(1, () -> crowded.lesson(0, 6));
        is(5, () -> crowded.why(2, 1));
        about(4, "Throws IndexOutOfBoundsException if there is no such teacher");
        is(2, () -> RICH.desk().setLimit(0, 0));
        is(2, () -> RICH.desk().setLimit(6, 0));
        outside(INDEX, RICH, 0, 6, (d, teacher) -> d.setLimit(teacher, 1));
        outside(INDEX, FULL, 0, 7, (d, teacher) -> d.setLimit(teacher, 1));
        untouched(INDEX, BARE, d -> d.setLimit(0, 1));
        about(4, "Throws IllegalArgumentException if limit is out of range");
        outside(ARGUMENT, RICH, 0, 3, (d, limit) -> d.setLimit(0, limit));
    }

    private static void setSize() {
        about(5, "Sets the size of a class.");
        SubstituteDesk desk = slotDesk(0, 2, 2, 0);
        desk.setSize(1, 7);
        is(20, () -> desk.lesson(0, 7));
        is(7, () -> desk.lesson(1, 7));
        about(5, "- number: the number of the class, 0 to 5");
        is(20, () -> desk.setSize(0, 8));
        is(20, () -> desk.setSize(5, 8));
        is(8, () -> desk.lesson(0, 7));
        about(5, "- size: the size, 1 to 30");
        desk.setSize(0, 1);
        is(1, () -> desk.lesson(0, 7));
        desk.setSize(0, 30);
        is(30, () -> desk.lesson(0, 7));
        about(5, "Returns the previous size.");
        is(30, () -> desk.setSize(0, 30));
        is(30, () -> desk.setSize(0, 29));
        is(29, () -> desk.setSize(0, 1));
        is(1, () -> desk.setSize(0, 2));
        about(5, "Throws IndexOutOfBoundsException if there is no such class");
        outside(INDEX, RICH, 0, 5, (d, number) -> d.setSize(number, 20));
        about(5, "Throws IllegalArgumentException if size is out of range");
        outside(ARGUMENT, RICH, 1, 30, (d, size) -> d.setSize(4, size));
        outside(ARGUMENT, BARE, 1, 30, (d, size) -> d.setSize(0, size));
    }

    private static void setSizeAndLoads() {
        about(5, "Throws IllegalStateException if a lesson of the class is split");
        untouched(STATE, RICH, d -> d.setSize(0, 1));
        untouched(STATE, RICH, d -> d.setSize(0, 20));
        untouched(STATE, RICH, d -> d.setSize(0, 30));
        SubstituteDesk desk = RICH.desk();
        desk.unsplit(0);
        is(20, () -> desk.setSize(0, 1));
        // The split lesson may be any one of the class, also the last one.
        Recipe late = () -> {
            SubstituteDesk d = wideDesk(3);
            for (int slot = 3; slot >= 1; slot--) {
                for (int k = 0; k < 3; k++) {
                    d.addLesson(slot, k, 0, k, k);
                }
            }
            d.setAbsent(0, 1, true);
            d.split(6, 7, 8);
            return d;
        };
        untouched(STATE, late, d -> d.setSize(0, 20));
        is(20, () -> late.desk().setSize(1, 30));
        // The host of class 1 has the load 20 + 10; then 29 + 10 is just not too much for 39, and 30 + 10 is.
        Recipe tight = () -> {
            SubstituteDesk d = RICH_WITHOUT_INPUT.desk();
            d.setCapacity(1, 39);
            return d;
        };
        is(20, () -> tight.desk().setSize(1, 29));
        untouched(STATE, tight, d -> d.setSize(1, 30));
        // Taught, covered and open lessons have a load alike.
        Recipe small = () -> {
            SubstituteDesk d = RICH_WITHOUT_INPUT.desk();
            d.setCapacity(3, 20);
            d.setCapacity(4, 20);
            return d;
        };
        for (int number : new int[] {3, 4}) {
            is(20, () -> small.desk().setSize(number, 20));
            is(20, () -> small.desk().setSize(number, 1));
            untouched(STATE, small, d -> d.setSize(number, 21));
            untouched(STATE, small, d -> d.setSize(number, 30));
        }
        // A class without lessons takes every size, however small the rooms are.
        SubstituteDesk bare = new SubstituteDesk();
        bare.setCapacity(0, 10);
        is(20, () -> bare.setSize(0, 30));
    }

    private static void setCapacity() {
        about(6, "Sets the capacity of a room.");
        SubstituteDesk desk = deskOf(1);
        desk.setCapacity(0, 19);
        refuses(UNSUPPORTED, () -> desk.addLesson(0, 0, 0, 0, 0));
        is(0, () -> desk.addLesson(0, 0, 0, 0, 1));
        about(6, "- room: the number of the room, 0 to 5");
        is(19, () -> desk.setCapacity(0, 40));
        is(30, () -> desk.setCapacity(5, 41));
        about(6, "- capacity: the capacity, 10 to 60");
        is(40, () -> desk.setCapacity(0, 10));
        is(41, () -> desk.setCapacity(5, 60));
        about(6, "Returns the previous capacity.");
        is(10, () -> desk.setCapacity(0, 10));
        is(10, () -> desk.setCapacity(0, 11));
        is(60, () -> desk.setCapacity(5, 59));
        is(59, () -> desk.setCapacity(5, 60));
        about(6, "Throws IndexOutOfBoundsException if there is no such room");
        outside(INDEX, RICH, 0, 5, (d, room) -> d.setCapacity(room, 30));
        about(6, "Throws IllegalArgumentException if capacity is out of range");
        outside(ARGUMENT, RICH, 10, 60, (d, capacity) -> d.setCapacity(0, capacity));
        outside(ARGUMENT, BARE, 10, 60, (d, capacity) -> d.setCapacity(5, capacity));
        about(6, "Throws IllegalStateException if the load of a lesson in this room is greater");
        // Split, covered and host, taught and host, taught, open.
        int[] loads = {20, 30, 30, 20, 20};
        for (int room : upTo(5)) {
            int load = loads[room];
            is(60, () -> RICH.desk().setCapacity(room, load));
            untouched(STATE, RICH, d -> d.setCapacity(room, load - 1));
            untouched(STATE, RICH, d -> d.setCapacity(room, 10));
        }
        SubstituteDesk one = deskOf(1);
        one.addLesson(0, 0, 0, 0, 0);
        refuses(STATE, () -> one.setCapacity(0, 19));
        is(30, () -> one.setCapacity(0, 20));
        // The last lesson of the room counts as the first one does.
        Recipe twice = () -> {
            SubstituteDesk d = deskOf(1);
            d.setSize(0, 10);
            d.addLesson(0, 0, 0, 0, 3);
            d.addLesson(1, 1, 0, 0, 3);
            d.addLesson(2, 0, 0, 0, 3);
            return d;
        };
        is(30, () -> twice.desk().setCapacity(3, 20));
        untouched(STATE, twice, d -> d.setCapacity(3, 19));
        is(30, () -> twice.desk().setCapacity(2, 19));
    }

    private static void addLesson() {
        about(7, "Adds a lesson.");
        SubstituteDesk desk = RICH.desk();
        is(7, () -> desk.addLesson(9, 5, 3, 6, 5));
        is(8, () -> desk.count(1));
        // Its teacher is absent, so it is open at once.
        int[] due = {9, 5, 3, 6, 5, 3, -1, 20};
        for (int what : upTo(8)) {
            is(due[what], () -> desk.lesson(7, what));
        }
        about(7, "Returns the number of the lesson.");
        SubstituteDesk other = deskOf(1);
        for (int k : upTo(30)) {
            is(k, () -> other.addLesson(29 - k, 0, 0, 0, 0));
        }
        other.removeLesson(4);
        is(29, () -> other.addLesson(25, 0, 0, 0, 0));
        about(7, "Throws IllegalArgumentException if a number is out of range, or there is no such teacher");
        is(7, () -> RICH.desk().addLesson(0, 0, 0, 0, 0));
        is(7, () -> RICH.desk().addLesson(29, 4, 5, 6, 4));
        is(7, () -> RICH.desk().addLesson(28, 5, 5, 6, 5));
        outside(ARGUMENT, RICH, 0, 29, (d, slot) -> d.addLesson(slot, 0, 0, 0, 0));
        outside(ARGUMENT, RICH, 0, 5, (d, number) -> d.addLesson(28, number, 0, 0, 0));
        outside(ARGUMENT, RICH, 0, 5, (d, subject) -> d.addLesson(28, 0, subject, 0, 0));
        outside(ARGUMENT, RICH, 0, 6, (d, teacher) -> d.addLesson(28, 0, 0, teacher, 0));
        outside(ARGUMENT, RICH, 0, 5, (d, room) -> d.addLesson(28, 0, 0, 0, room));
        untouched(ARGUMENT, BARE, d -> d.addLesson(0, 0, 0, 0, 0));
    }

    private static void addLessonCollides() {
        about(7, "Throws UnsupportedOperationException if the class, the teacher or the room has a lesson in the slot");
        // In slot 9, class 5, teachers 5 (who covers) and 6 (who is absent) and room 5 have no lesson.
        is(7, () -> RICH.desk().addLesson(9, 5, 0, 6, 5));
        for (int k : upTo(5)) {
            untouched(UNSUPPORTED, RICH, d -> d.addLesson(9, k, 0, 6, 5));
            untouched(UNSUPPORTED, RICH, d -> d.addLesson(9, 5, 0, k, 5));
            untouched(UNSUPPORTED, RICH, d -> d.addLesson(9, 5, 0, 6, k));
        }
        untouched(UNSUPPORTED, RICH, d -> d.addLesson(9, 5, 0, 5, 5));
        SubstituteDesk desk = RICH.desk();
        is(7, () -> desk.addLesson(8, 5, 0, 5, 5));
        desk.uncover(1);
        is(8, () -> desk.addLesson(9, 5, 0, 5, 5));
        // The size may be the capacity, but no more.
        for (int[] pair : new int[][] {{10, 10}, {30, 30}, {1, 10}, {20, 20}}) {
            SubstituteDesk small = deskOf(1);
            small.setSize(4, pair[0]);
            small.setCapacity(3, pair[1]);
            is(0, () -> small.addLesson(0, 4, 0, 0, 3));
        }
        for (int[] pair : new int[][] {{11, 10}, {30, 29}, {30, 10}, {20, 19}}) {
            untouched(UNSUPPORTED, () -> {
                SubstituteDesk small = deskOf(1);
                small.setSize(4, pair[0]);
                small.setCapacity(3, pair[1]);
                return small;
            }, d -> d.addLesson(0, 4, 0, 0, 3));
        }
    }

    private static void addLessonWhenFull() {
        about(7, "Throws IllegalStateException if there are 40 lessons");
        untouched(STATE, FULL, d -> d.addLesson(10, 0, 0, 0, 0));
        untouched(STATE, FULL, d -> d.addLesson(0, 4, 0, 4, 4));
        SubstituteDesk desk = FULL.desk();
        desk.removeLesson(39);
        is(39, () -> desk.addLesson(29, 0, 0, 0, 0));
        refuses(STATE, () -> desk.addLesson(28, 0, 0, 0, 0));
        desk.removeLesson(0);
        is(39, () -> desk.addLesson(28, 0, 0, 0, 0));
    }

    private static void removeLesson() {
        about(8, "Removes a lesson; the numbers of the later ones decrease by 1.");
        int[] slots = {9, 9, 9, 9, 9, 10, 29};
        for (int removed : upTo(7)) {
            SubstituteDesk desk = RICH.desk();
            is(6, () -> desk.removeLesson(removed));
            for (int k : upTo(6)) {
                int before = k < removed ? k : k + 1;
                int same = before == 5 ? 0 : before == 6 ? 5 : before;
                int[] due = {slots[before], same, same, before == 6 ? 3 : same, same};
                for (int what : upTo(5)) {
                    is(due[what], () -> desk.lesson(k, what));
                }
            }
            refuses(INDEX, () -> desk.lesson(6, 0));
        }
        SubstituteDesk most = FULL.desk();
        most.removeLesson(0);
        for (int k : upTo(39)) {
            is((k + 1) / 4, () -> most.lesson(k, 0));
            is((k + 1) % 4, () -> most.lesson(k, 1));
        }
        // The hosts stay the same lessons.
        SubstituteDesk hosts = slotDesk(9, 5, 5, 5);
        hosts.setAbsent(1, 9, false);
        hosts.setAbsent(4, 9, false);
        hosts.split(3, 4, 1);
        hosts.removeLesson(2);
        is(3, () -> hosts.host(2, false));
        is(1, () -> hosts.host(2, true));
        hosts.removeLesson(0);
        is(2, () -> hosts.host(1, false));
        is(0, () -> hosts.host(1, true));
        is(30, () -> hosts.lesson(0, 7));
        SubstituteDesk first = slotDesk(9, 5, 4, 1);
        first.split(0, 2, 3);
        first.removeLesson(1);
        is(1, () -> first.host(0, false));
        is(2, () -> first.host(0, true));
        about(8, "Returns the number of lessons that remain.");
        SubstituteDesk full = FULL.desk();
        for (int left : upTo(40)) {
            is(39 - left, () -> full.removeLesson(left % 2 * (39 - left)));
        }
        about(8, "Throws IndexOutOfBoundsException if there is no such lesson");
        refuses(INDEX, () -> full.removeLesson(0));
        outside(INDEX, RICH, 0, 6, SubstituteDesk::removeLesson);
        outside(INDEX, FULL, 0, 39, SubstituteDesk::removeLesson);
        untouched(INDEX, BARE, d -> d.removeLesson(0));
    }

    private static void removeLessonEnds() {
        about(8, "A cover or splitting of it ends, and splittings of which it is a host end.");
        // RICH has one undone cover and one undone splitting already.
        int[][] due = {{1, 2, 3, 0}, {2, 2, 0, 0}, {1, 2, 3, 0}, {1, 1, 4, 1}, {1, 1, 4, 1}};
        for (int lesson : upTo(5)) {
            SubstituteDesk desk = RICH.desk();
            desk.removeLesson(lesson);
            is(due[lesson][0], () -> desk.count(6));
            is(due[lesson][1], () -> desk.count(7));
            is(due[lesson][2], () -> desk.teacher(5, 3));
            is(due[lesson][3], () -> desk.teacher(2, 3));
            is(due[lesson][3], () -> desk.count(4));
            is(0, desk::audit);
        }
        // A lesson that is covered hosts two, as first and as second host; another splitting stays.
        SubstituteDesk desk = slotDesk(0, 8, 6, 4);
        desk.cover(3, 6);
        desk.split(0, 3, 4);
        desk.split(1, 5, 3);
        desk.split(2, 4, 5);
        is(5, () -> desk.removeLesson(3));
        is(1, () -> desk.count(6));
        is(2, () -> desk.count(7));
        is(3, () -> desk.lesson(0, 5));
        is(3, () -> desk.lesson(1, 5));
        is(2, () -> desk.lesson(2, 5));
        is(3, () -> desk.host(2, false));
        is(4, () -> desk.host(2, true));
        is(0, () -> desk.teacher(6, 3));
        is(1, () -> desk.teacher(4, 3));
        is(1, () -> desk.teacher(5, 3));
    }

    private static void setRoom() {
        about(9, "Gives a lesson another room.");
        SubstituteDesk desk = RICH.desk();
        desk.setRoom(3, 5);
        is(5, () -> desk.lesson(3, 4));
        is(8, () -> desk.freeRooms(9));
        about(9, "- room: the room, 0 to 5");
        desk.setRoom(5, 5);
        is(5, () -> desk.lesson(5, 4));
        desk.setRoom(5, 0);
        is(0, () -> desk.lesson(5, 4));
        about(9, "Returns the previous room.");
        is(0, () -> desk.setRoom(5, 0));
        is(0, () -> desk.setRoom(5, 4));
        is(4, () -> desk.setRoom(5, 5));
        is(5, () -> desk.setRoom(5, 5));
        about(9, "Throws IndexOutOfBoundsException if there is no such lesson");
        is(0, () -> RICH.desk().setRoom(0, 0));
        is(5, () -> RICH.desk().setRoom(6, 0));
        outside(INDEX, RICH, 0, 6, (d, lesson) -> d.setRoom(lesson, 5));
        untouched(INDEX, BARE, d -> d.setRoom(0, 0));
        about(9, "Throws IllegalArgumentException if there is no such room");
        outside(ARGUMENT, RICH, 0, 5, (d, room) -> d.setRoom(6, room));
        about(9, "Throws IllegalStateException if another lesson has this room in the slot");
        for (int lesson : upTo(5)) {
            for (int room : upTo(5)) {
                if (lesson == room) {
                    is(room, () -> RICH.desk().setRoom(lesson, room));
                } else {
                    untouched(STATE, RICH, d -> d.setRoom(lesson, room));
                }
            }
        }
        // Hosts have the load 30, as much as room 5 takes at first; then 31 is too much, split or open 20 is not.
        is(1, () -> RICH.desk().setRoom(1, 5));
        Recipe lower = () -> {
            SubstituteDesk d = RICH_WITHOUT_INPUT.desk();
            d.setCapacity(5, 29);
            return d;
        };
        untouched(STATE, lower, d -> d.setRoom(1, 5));
        untouched(STATE, lower, d -> d.setRoom(2, 5));
        is(0, () -> lower.desk().setRoom(0, 5));
        Recipe least = () -> {
            SubstituteDesk d = RICH_WITHOUT_INPUT.desk();
            d.removeLesson(6);
            d.setCapacity(5, 19);
            return d;
        };
        for (int lesson : upTo(6)) {
            untouched(STATE, least, d -> d.setRoom(lesson, 5));
        }
    }

    private static void count() {
        about(10, "Returns a count.");
        int[] due = {7, 7, 3, 1, 1, 2, 1, 1};
        for (int what : upTo(8)) {
            is(due[what], () -> RICH.desk().count(what));
            is(what == 0 ? 8 : what == 1 || what == 2 ? 40 : 0, () -> FULL.desk().count(what));
        }
        about(10, "- what: 0 for teachers, 1 for lessons, 2 to 5 for taught, covered, split and open lessons, 6 and 7");
        SubstituteDesk desk = slotDesk(0, 8, 6, 5);
        counts(desk, 8, 6, 1, 0, 0, 5, 0, 0);
        desk.cover(0, 6);
        counts(desk, 8, 6, 1, 1, 0, 4, 0, 0);
        desk.cover(1, 7);
        counts(desk, 8, 6, 1, 2, 0, 3, 0, 0);
        desk.split(2, 0, 5);
        counts(desk, 8, 6, 1, 2, 1, 2, 0, 0);
        desk.setAbsent(6, 0, true);
        counts(desk, 8, 6, 1, 1, 0, 4, 1, 1);
        about(10, "Returns the count.");
        desk.setAbsent(7, 0, true);
        counts(desk, 8, 6, 1, 0, 0, 5, 2, 1);
        desk.setAbsent(5, 0, true);
        counts(desk, 8, 6, 0, 0, 0, 6, 2, 1);
        desk.setAbsent(0, 0, false);
        counts(desk, 8, 6, 1, 0, 0, 5, 2, 1);
        about(10, "Throws IllegalArgumentException if what is not 0 to 7");
        outside(ARGUMENT, RICH, 0, 7, SubstituteDesk::count);
        outside(ARGUMENT, BARE, 0, 7, SubstituteDesk::count);
    }

    private static void counts(SubstituteDesk desk, int... due) {
        for (int what : upTo(8)) {
            is(due[what], () -> desk.count(what));
        }
    }

    private static void lesson() {
        about(11, "Returns a number of a lesson.");
        int[] first = {9, 0, 0, 0, 0, 2, -1, 20};
        int[] covered = {9, 1, 1, 1, 1, 1, 5, 30};
        int[] open = {9, 4, 4, 4, 4, 3, -1, 20};
        int[] last = {29, 5, 5, 3, 5, 0, 3, 20};
        for (int what : upTo(8)) {
            is(first[what], () -> RICH.desk().lesson(0, what));
            is(covered[what], () -> RICH.desk().lesson(1, what));
            is(open[what], () -> RICH.desk().lesson(4, what));
            is(last[what], () -> RICH.desk().lesson(6, what));
        }
        about(11, "- what: 0 to 4 for its slot, class, subject, teacher and room, 5 for its state, 0 taught");
        SubstituteDesk desk = deskOf(2);
        desk.addLesson(17, 2, 3, 1, 4);
        int[] taught = {17, 2, 3, 1, 4, 0, 1, 20};
        for (int what : upTo(8)) {
            is(taught[what], () -> desk.lesson(0, what));
            onlyAnswers(last[what], RICH, d -> d.lesson(6, what));
        }
        about(11, "Returns the number.");
        desk.setAbsent(1, 17, true);
        is(-1, () -> desk.lesson(0, 6));
        desk.cover(0, 0);
        is(0, () -> desk.lesson(0, 6));
        is(1, () -> desk.lesson(0, 3));
        about(11, "Throws IndexOutOfBoundsException if there is no such lesson");
        outside(INDEX, RICH, 0, 6, (d, lesson) -> d.lesson(lesson, 0));
        outside(INDEX, FULL, 0, 39, (d, lesson) -> d.lesson(lesson, 7));
        untouched(INDEX, BARE, d -> d.lesson(0, 0));
        about(11, "Throws IllegalArgumentException if what is not 0 to 7");
        outside(ARGUMENT, RICH, 0, 7, (d, what) -> d.lesson(0, what));
    }

    private static void teacher() {
        about(12, "Returns a number of a teacher.");
        int[][] due = {{7, 1, 2, 0, 0, 2, 0, 2}, {63, 2, 2, 0, 0, 1, 0, 1}, {63, 3, 2, 1, 4, 1, 0, 0},
            {1, 4, 2, 0, 0, 2, 0, 0}, {56, 1, 2, 0, 0, 1, 0, 1}, {63, 2, 1, 4, 24, 0, 1, 0}, {32, 3, 2, 0, 0, 0, 0, 0}};
        for (int teacher : upTo(7)) {
            for (int what : upTo(8)) {
                is(due[teacher][what], () -> RICH.desk().teacher(teacher, what));
            }
        }
        about(12, "- what: 0 for the subjects, 1 for the weight, 2 for the limit, 3 for the points, 4 for the share");
        for (int what : upTo(8)) {
            onlyAnswers(due[5][what], RICH, d -> d.teacher(5, what));
        }
        about(12, "Returns the number.");
        SubstituteDesk desk = CROWDED.desk();
        desk.cover(0, 1);
        desk.cover(4, 1);
        desk.cover(1, 2);
        is(5, () -> desk.teacher(0, 5));
        is(5, () -> desk.teacher(0, 7));
        is(5, () -> desk.teacher(1, 3));
        is(60, () -> desk.teacher(1, 4));
        is(2, () -> desk.teacher(1, 6));
        is(1, () -> desk.teacher(2, 6));
        is(0, () -> desk.teacher(3, 6));
        desk.setAbsent(0, 12, false);
        is(5, () -> desk.teacher(0, 5));
        is(4, () -> desk.teacher(0, 7));
        is(1, () -> desk.teacher(1, 6));
        // Covers of all days count.
        for (int day : upTo(5)) {
            desk.addLesson(6 * day + 5, 0, 0, 0, 0);
            desk.setAbsent(0, 6 * day + 5, true);
            desk.cover(5 + day, 3);
            is(day + 1, () -> desk.teacher(3, 6));
            is(day + 6, () -> desk.teacher(0, 5));
        }
        about(12, "Throws IndexOutOfBoundsException if there is no such teacher");
        outside(INDEX, RICH, 0, 6, (d, teacher) -> d.teacher(teacher, 0));
        outside(INDEX, FULL, 0, 7, (d, teacher) -> d.teacher(teacher, 4));
        untouched(INDEX, BARE, d -> d.teacher(0, 0));
        about(12, "Throws IllegalArgumentException if what is not 0 to 7");
        outside(ARGUMENT, RICH, 0, 7, (d, what) -> d.teacher(0, what));
    }

    private static void lessonOf() {
        about(13, "Returns the lesson that a class has in a slot.");
        for (int k : upTo(5)) {
            is(k, () -> RICH.desk().lessonOf(9, k));
        }
        onlyAnswers(5, RICH, d -> d.lessonOf(10, 0));
        about(13, "- slot: the slot, 0 to 29");
        is(6, () -> RICH.desk().lessonOf(29, 5));
        is(0, () -> FULL.desk().lessonOf(0, 0));
        about(13, "- number: the number of the class, 0 to 5");
        is(3, () -> FULL.desk().lessonOf(0, 3));
        is(36, () -> FULL.desk().lessonOf(9, 0));
        about(13, "Returns the number of the lesson.");
        is(39, () -> FULL.desk().lessonOf(9, 3));
        SubstituteDesk desk = RICH.desk();
        desk.removeLesson(0);
        is(5, () -> desk.lessonOf(29, 5));
        is(4, () -> desk.lessonOf(10, 0));
        about(13, "Throws IndexOutOfBoundsException if there is no such slot or class");
        outside(INDEX, RICH, 0, 29, (d, slot) -> d.lessonOf(slot, 0));
        outside(INDEX, RICH, 0, 5, (d, number) -> d.lessonOf(9, number));
        about(13, "Throws NoSuchElementException if it has none");
        untouched(NO_ELEMENT, RICH, d -> d.lessonOf(9, 5));
        untouched(NO_ELEMENT, RICH, d -> d.lessonOf(10, 1));
        untouched(NO_ELEMENT, RICH, d -> d.lessonOf(0, 0));
        untouched(NO_ELEMENT, RICH, d -> d.lessonOf(28, 5));
        untouched(NO_ELEMENT, BARE, d -> d.lessonOf(29, 5));
        refuses(NO_ELEMENT, () -> desk.lessonOf(9, 0));
    }
}
