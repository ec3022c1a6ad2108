/** The sentences of the description on covers, splittings and suggestions, and those of promises 20 to 29. */
final class CoverBounds extends Bounds {
    static void run() {
        firstReason();
        limits();
        pointsOfCovers();
        pointsBeginAndEnd();
        hosts();
        parts();
        loads();
        pointsOfHosts();
        suggestions();
        suggestionsByShare();
        why();
        points();
        suggestion();
        cover();
        coverRefused();
        uncover();
        split();
        splitRefused();
        splitIntoFullRooms();
        unsplit();
        host();
        refusal();
        coverDay();
        coverDayInOrder();
    }

    private static void firstReason() {
        about(0, "A teacher cannot cover an open lesson for the first of these reasons that applies");
        // Slot 0: 0 and 1 are absent, 2 teaches, 3 is absent without a lesson, 4 covers lesson 1, 5 and 6 are free.
        SubstituteDesk desk = slotDesk(0, 7, 3, 2);
        desk.setAbsent(3, 0, true);
        desk.cover(1, 4);
        int[] due = {1, 2, 3, 2, 4, 0, 0};
        for (int teacher : upTo(7)) {
            is(due[teacher], () -> desk.why(0, teacher));
        }
        // Beside the limit, each of the other reasons is told.
        for (int teacher : upTo(7)) {
            desk.setLimit(teacher, 0);
            is(due[teacher] == 0 ? 5 : due[teacher], () -> desk.why(0, teacher));
        }
        // 4 has as many covers as the limit says.
        desk.setLimit(4, 1);
        is(4, () -> desk.why(0, 4));
        // What is in another slot of the day, or in the same period of another day, is no reason.
        SubstituteDesk near = openDesk(2, 14, 15, 16, 9, 21);
        for (int slot : new int[] {14, 9}) {
            near.addLesson(slot, 1, 0, 1, 1);
        }
        near.setAbsent(1, 16, true);
        near.setAbsent(1, 27, true);
        near.cover(4, 1);
        is(3, () -> near.why(0, 1));
        is(0, () -> near.why(1, 1));
        is(2, () -> near.why(2, 1));
    }

    private static void limits() {
        for (int limit : upTo(4)) {
            SubstituteDesk desk = CROWDED.desk();
            desk.addLesson(11, 0, 0, 0, 0);
            desk.addLesson(18, 0, 0, 0, 0);
            desk.setAbsent(0, 11, true);
            desk.setAbsent(0, 18, true);
            desk.setLimit(1, limit);
            for (int covers : upTo(limit)) {
                is(0, () -> desk.why(covers, 1));
                desk.cover(covers, 1);
            }
            is(5, () -> desk.why(limit, 1));
            is(limit == 0 ? 5 : 0, () -> desk.why(5, 1));
            is(limit == 0 ? 5 : 0, () -> desk.why(6, 1));
            is(0, () -> desk.why(limit, 2));
            if (limit > 0) {
                // More covers than the limit says are a reason, too.
                desk.setLimit(1, limit - 1);
                is(5, () -> desk.why(limit, 1));
                desk.uncover(0);
                is(5, () -> desk.why(limit, 1));
                desk.setLimit(1, limit);
                is(0, () -> desk.why(limit, 1));
            }
        }
    }

    private static void pointsOfCovers() {
        about(0, "A cover has points: 2 in the periods 0 to 2, 3 in the periods 3 and 4, and 4 in period 5");
        int[] due = {2, 2, 2, 3, 3, 4};
        for (int slot : upTo(30)) {
            for (int subject : upTo(6)) {
                SubstituteDesk desk = new SubstituteDesk();
                desk.addTeacher(1, 1);
                desk.addTeacher(1 << subject, 1);
                desk.addTeacher(63 - (1 << subject), 1);
                desk.addLesson(slot, 0, subject, 0, 0);
                desk.setAbsent(0, slot, true);
                is(due[slot % 6], () -> desk.cover(0, 1));
                is(due[slot % 6], () -> desk.teacher(1, 3));
                desk.uncover(0);
                is(due[slot % 6] + 2, () -> desk.cover(0, 2));
                is(due[slot % 6] + 2, () -> desk.teacher(2, 3));
            }
        }
    }

    private static void pointsBeginAndEnd() {
        about(0, "The covering teacher gets these points when the cover begins, and loses them when it ends.");
        Act[] ends = {
            d -> d.uncover(0), d -> d.setAbsent(1, 5, true), d -> d.setAbsent(0, 5, false), d -> d.removeLesson(0),
            d -> readText(d, "a1@5;"),
        };
        for (Act end : ends) {
            SubstituteDesk desk = deskOf(2);
            desk.addLesson(5, 0, 0, 0, 0);
            desk.addLesson(0, 0, 0, 0, 0);
            desk.setAbsent(0, 5, true);
            desk.setAbsent(0, 0, true);
            is(0, () -> desk.teacher(1, 3));
            desk.cover(0, 1);
            is(4, () -> desk.teacher(1, 3));
            desk.cover(1, 1);
            is(6, () -> desk.teacher(1, 3));
            end.on(desk);
            is(2, () -> desk.teacher(1, 3));
            is(0, () -> desk.teacher(0, 3));
            is(0, desk::audit);
        }
    }

    private static void hosts() {
        about(0, "An open lesson can be split between two others in the same slot, its hosts");
        // 0 and 1 are open, 2 is covered, 3 and 4 are taught; 5 is in the next slot.
        SubstituteDesk desk = slotDesk(0, 7, 5, 3);
        desk.addLesson(1, 5, 0, 5, 5);
        desk.cover(2, 6);
        boolean[] isHost = {false, false, true, true, true, false};
        for (int first : upTo(6)) {
            for (int second : upTo(6)) {
                if (isHost[first] && isHost[second] && first != second) {
                    is(10, () -> desk.split(0, first, second));
                    is(first, () -> desk.host(0, false));
                    is(second, () -> desk.host(0, true));
                    desk.unsplit(0);
                } else {
                    boolean isArgument = first == second || first == 5 || second == 5;
                    refuses(isArgument ? ARGUMENT : UNSUPPORTED, () -> desk.split(0, first, second));
                }
            }
        }
    }

    private static void parts() {
        about(0, "The first host gets half of the size of the class, rounded up, the second one the rest.");
        for (int size = 1; size <= 30; size++) {
            SubstituteDesk desk = slotDesk(0, 3, 3, 1);
            int rest = size / 2;
            int half = size - rest;
            desk.setSize(0, size);
            is(half, () -> desk.split(0, 2, 1));
            is(20 + half, () -> desk.lesson(2, 7));
            is(20 + rest, () -> desk.lesson(1, 7));
        }
    }

    private static void loads() {
        about(0, "The load of a lesson, in whatever state it is, is the size of its class plus what it gets");
        SubstituteDesk desk = slotDesk(0, 8, 6, 4);
        int[] sizes = {1, 2, 3, 7, 11, 13};
        for (int k : upTo(6)) {
            desk.setSize(k, sizes[k]);
        }
        loads(desk, 1, 2, 3, 7, 11, 13);
        desk.cover(3, 6);
        desk.split(0, 4, 5);
        loads(desk, 1, 2, 3, 7, 12, 13);
        desk.split(1, 5, 4);
        loads(desk, 1, 2, 3, 7, 13, 14);
        desk.split(2, 3, 4);
        loads(desk, 1, 2, 3, 9, 14, 14);
        desk.unsplit(0);
        loads(desk, 1, 2, 3, 9, 13, 14);
        desk.setAbsent(4, 0, true);
        loads(desk, 1, 2, 3, 7, 11, 13);
        // It is never greater than the capacity: 13 + 2 into 15 is right, 13 + 2 + 1 is too much.
        desk.setAbsent(4, 0, false);
        desk.setCapacity(5, 15);
        desk.split(2, 5, 4);
        untouchedSplit(desk, 0, 5, 4);
        is(1, () -> desk.split(0, 4, 5));
        untouchedSplit(desk, 1, 4, 5);
        loads(desk, 1, 2, 3, 7, 13, 15);
        refuses(STATE, () -> desk.setCapacity(5, 14));
        refuses(STATE, () -> desk.setSize(5, 14));
        desk.setCapacity(0, 14);
        refuses(STATE, () -> desk.setRoom(5, 0));
    }

    private static void untouchedSplit(SubstituteDesk desk, int lesson, int first, int second) {
        refuses(UNSUPPORTED, () -> desk.split(lesson, first, second));
        is(3, () -> desk.lesson(lesson, 5));
    }

    private static void loads(SubstituteDesk desk, int... due) {
        for (int lesson : upTo(6)) {
            is(due[lesson], () -> desk.lesson(lesson, 7));
        }
    }

    private static void pointsOfHosts() {
        about(0, "The acting teacher of each host gets 1 point when the splitting begins");
        Act[] ends = {
            d -> d.unsplit(0), d -> d.removeLesson(0), d -> d.setAbsent(0, 0, false), d -> d.setAbsent(2, 0, true),
            d -> d.setAbsent(4, 0, true), d -> d.uncover(1), d -> d.setAbsent(1, 0, false), d -> d.removeLesson(1),
            d -> d.removeLesson(2),
        };
        int[] left = {2, 2, 2, 2, 0, 0, 0, 0, 2};
        for (int k : upTo(ends.length)) {
            SubstituteDesk desk = slotDesk(0, 5, 4, 2);
            desk.cover(1, 4);
            is(2, () -> desk.teacher(4, 3));
            desk.split(0, 1, 2);
            is(3, () -> desk.teacher(4, 3));
            is(1, () -> desk.teacher(2, 3));
            is(0, () -> desk.teacher(1, 3));
            is(0, () -> desk.teacher(0, 3));
            is(0, () -> desk.teacher(3, 3));
            ends[k].on(desk);
            is(left[k], () -> desk.teacher(4, 3));
            is(0, () -> desk.teacher(2, 3));
            is(0, () -> desk.teacher(1, 3));
            is(0, () -> desk.teacher(0, 3));
        }
        // Even if the second host gets nobody, its teacher gets the point.
        SubstituteDesk desk = slotDesk(0, 3, 3, 1);
        desk.setSize(0, 1);
        desk.split(0, 1, 2);
        is(1, () -> desk.teacher(1, 3));
        is(1, () -> desk.teacher(2, 3));
        is(20, () -> desk.lesson(2, 7));
    }

    private static void suggestions() {
        about(0, "The suggestion for an open lesson is, among the teachers who can cover it, one who has its subject");
        // 3 and 4 have subject 5; 1 and 2 have not, but their share would be less.
        SubstituteDesk desk = new SubstituteDesk();
        int[][] teachers = {{63, 1}, {31, 4}, {31, 4}, {32, 1}, {32, 1}};
        for (int[] pair : teachers) {
            desk.addTeacher(pair[0], pair[1]);
        }
        desk.addLesson(0, 0, 5, 0, 0);
        desk.setAbsent(0, 0, true);
        is(3, () -> desk.suggestion(0));
        desk.setLimit(3, 0);
        is(4, () -> desk.suggestion(0));
        desk.setAbsent(4, 0, true);
        is(1, () -> desk.suggestion(0));
        desk.addLesson(0, 1, 0, 1, 1);
        is(2, () -> desk.suggestion(0));
        desk.setLimit(2, 0);
        refuses(NO_ELEMENT, () -> desk.suggestion(0));
        desk.setLimit(3, 1);
        is(3, () -> desk.suggestion(0));
    }

    private static void suggestionsByShare() {
        // With the cover: 24 + 24, 12 + 12, 8 + 8 and 6 + 6 for the weights 1 to 4.
        SubstituteDesk desk = new SubstituteDesk();
        desk.addTeacher(63, 1);
        for (int weight = 1; weight <= 4; weight++) {
            desk.addTeacher(63, weight);
        }
        for (int period : upTo(5)) {
            desk.addLesson(period, 0, 0, 0, 0);
            desk.setAbsent(0, period, true);
        }
        is(4, () -> desk.suggestion(0));
        desk.cover(0, 4);
        // Now 24, 12, 8 and 12: it is the share with the cover that counts, not the one before.
        is(3, () -> desk.suggestion(1));
        desk.cover(1, 3);
        // Now 24, 12, 16 and 12: 2 has the lowest number of the two with 12.
        is(2, () -> desk.suggestion(2));
        desk.setLimit(2, 0);
        is(4, () -> desk.suggestion(2));
        desk.setLimit(4, 1);
        is(3, () -> desk.suggestion(2));
        desk.setLimit(3, 0);
        is(1, () -> desk.suggestion(2));
        // Without the subject, 1 would have 48, and 2, who has 3 points already, 42; with it, 24 and 30.
        for (boolean isWithout : new boolean[] {true, false}) {
            SubstituteDesk more = new SubstituteDesk();
            more.addTeacher(63, 1);
            more.addTeacher(1, 1);
            more.addTeacher(1, 2);
            more.addLesson(6, 0, isWithout ? 5 : 0, 0, 0);
            more.addLesson(3, 0, 0, 0, 0);
            more.setAbsent(0, 6, true);
            more.setAbsent(0, 3, true);
            more.cover(1, 2);
            is(isWithout ? 2 : 1, () -> more.suggestion(0));
        }
        // Teacher 0 can be suggested as well.
        SubstituteDesk zero = deskOf(2);
        zero.addLesson(0, 0, 0, 1, 0);
        zero.setAbsent(1, 0, true);
        is(0, () -> zero.suggestion(0));
        // Of teachers who are alike it is always the lowest one who can.
        SubstituteDesk alike = CROWDED.desk();
        for (int k = 1; k < 4; k++) {
            int due = k;
            is(due, () -> alike.suggestion(4));
            alike.setLimit(due, 0);
        }
        refuses(NO_ELEMENT, () -> alike.suggestion(4));
    }

    private static void why() {
        about(20, "Returns why a teacher cannot cover a lesson.");
        int[] due = {2, 2, 3, 3, 1, 4, 2};
        for (int teacher : upTo(7)) {
            onlyAnswers(due[teacher], RICH, d -> d.why(4, teacher));
        }
        about(20, "Returns the reason, 1 to 5, or 0 if the teacher can.");
        int[] later = {1, 0, 0, 0, 0, 5, 0};
        for (int teacher : upTo(7)) {
            onlyAnswers(later[teacher], RICH, d -> d.why(5, teacher));
        }
        about(20, "Throws IndexOutOfBoundsException if there is no such lesson or teacher");
        outside(INDEX, RICH, 0, 6, (d, lesson) -> d.why(lesson, 0));
        outside(INDEX, RICH, 0, 6, (d, teacher) -> d.why(4, teacher));
        untouched(INDEX, BARE, d -> d.why(0, 0));
        about(20, "Throws IllegalStateException if the lesson is not open");
        for (int lesson : new int[] {0, 1, 2, 3, 6}) {
            for (int teacher : new int[] {lesson == 6 ? 3 : lesson, 5, 6}) {
                untouched(STATE, RICH, d -> d.why(lesson, teacher));
            }
        }
    }

    private static void points() {
        about(21, "Returns the points that a cover has.");
        int[] due = {3, 3, 3, 3, 5, 3, 5};
        for (int teacher : upTo(7)) {
            onlyAnswers(due[teacher], RICH, d -> d.points(5, teacher));
        }
        about(21, "Returns the points, whether the teacher can cover the lesson or not.");
        // By the teacher of the lesson, and by one without the subject, in every state.
        int[] own = {3, 3, 3, 5, 3, 3, 6};
        for (int lesson : upTo(7)) {
            int teacher = lesson == 5 ? 0 : lesson == 6 ? 3 : lesson;
            is(own[lesson], () -> RICH.desk().points(lesson, teacher));
            is(lesson == 6 ? 4 : 5, () -> RICH.desk().points(lesson, 6));
            is(lesson == 6 ? 4 : 3, () -> RICH.desk().points(lesson, 5));
        }
        about(21, "Throws IndexOutOfBoundsException if there is no such lesson or teacher");
        outside(INDEX, RICH, 0, 6, (d, lesson) -> d.points(lesson, 0));
        outside(INDEX, RICH, 0, 6, (d, teacher) -> d.points(0, teacher));
        untouched(INDEX, BARE, d -> d.points(0, 0));
    }

    private static void suggestion() {
        about(22, "Returns the suggestion for an open lesson.");
        // For lesson 5 of subject 0: with the cover 18 for 1, 16 for 2 and 9 for 3; 5 is at the limit, 4 and 6 lack it.
        onlyAnswers(3, RICH, d -> d.suggestion(5));
        about(22, "Returns the number of the teacher.");
        SubstituteDesk desk = RICH.desk();
        int[] order = {3, 2, 1, 6, 4};
        for (int teacher : order) {
            is(teacher, () -> desk.suggestion(5));
            desk.setLimit(teacher, 0);
        }
        about(22, "Throws NoSuchElementException if no teacher can cover it");
        refuses(NO_ELEMENT, () -> desk.suggestion(5));
        untouched(NO_ELEMENT, RICH, d -> d.suggestion(4));
        desk.setLimit(5, 2);
        is(5, () -> desk.suggestion(5));
        SubstituteDesk alone = deskOf(1);
        alone.addLesson(0, 0, 0, 0, 0);
        alone.setAbsent(0, 0, true);
        refuses(NO_ELEMENT, () -> alone.suggestion(0));
        alone.addTeacher(2, 1);
        is(1, () -> alone.suggestion(0));
        about(22, "Throws IndexOutOfBoundsException if there is no such lesson");
        outside(INDEX, RICH, 0, 6, SubstituteDesk::suggestion);
        untouched(INDEX, BARE, d -> d.suggestion(0));
        about(22, "Throws IllegalStateException if the lesson is not open");
        for (int lesson : new int[] {0, 1, 2, 3, 6}) {
            untouched(STATE, RICH, d -> d.suggestion(lesson));
        }
    }

    private static void cover() {
        about(23, "Lets a teacher cover an open lesson.");
        SubstituteDesk desk = RICH.desk();
        desk.cover(5, 6);
        is(1, () -> desk.lesson(5, 5));
        is(6, () -> desk.lesson(5, 6));
        is(0, () -> desk.lesson(5, 3));
        is(1, () -> desk.teacher(6, 6));
        is(1, () -> desk.openOn(1));
        is(0, () -> desk.free(6, 1) & 16);
        about(23, "Returns the points.");
        is(5, () -> desk.teacher(6, 3));
        int[] due = {0, 3, 3, 3, 5, 0, 5};
        for (int teacher : new int[] {1, 2, 3, 4, 6}) {
            is(due[teacher], () -> RICH.desk().cover(5, teacher));
        }
        about(23, "Throws IndexOutOfBoundsException if there is no such lesson or teacher");
        outside(INDEX, RICH, 0, 6, (d, lesson) -> d.cover(lesson, 6));
        outside(INDEX, RICH, 0, 6, (d, teacher) -> d.cover(5, teacher));
        untouched(INDEX, BARE, d -> d.cover(0, 0));
        about(23, "Throws IllegalStateException if the lesson is not open");
        for (int lesson : new int[] {0, 1, 2, 3, 6}) {
            for (int teacher : new int[] {lesson == 6 ? 3 : lesson, 5, 6}) {
                untouched(STATE, RICH, d -> d.cover(lesson, teacher));
            }
        }
        refuses(STATE, () -> desk.cover(5, 6));
        refuses(STATE, () -> desk.cover(5, 1));
    }

    private static void coverRefused() {
        about(23, "Throws UnsupportedOperationException if the teacher cannot cover it; the reason is then kept");
        int[] due = {2, 2, 3, 3, 1, 4, 2};
        for (int teacher : upTo(7)) {
            untouched(UNSUPPORTED, RICH, d -> d.cover(4, teacher), Looks.KEPT);
            SubstituteDesk desk = RICH.desk();
            refuses(UNSUPPORTED, () -> desk.cover(4, teacher));
            is(due[teacher], desk::refusal);
            is(3, desk::errorPosition);
        }
        untouched(UNSUPPORTED, RICH, d -> d.cover(5, 5), Looks.KEPT);
        SubstituteDesk desk = RICH.desk();
        refuses(UNSUPPORTED, () -> desk.cover(5, 5));
        is(5, desk::refusal);
        desk.setLimit(5, 2);
        is(3, () -> desk.cover(5, 5));
        is(5, desk::refusal);
    }

    private static void uncover() {
        about(24, "Ends the cover of a lesson, which is open then.");
        SubstituteDesk desk = RICH.desk();
        desk.uncover(1);
        is(3, () -> desk.lesson(1, 5));
        is(-1, () -> desk.lesson(1, 6));
        is(0, () -> desk.teacher(5, 6));
        is(0, () -> desk.teacher(5, 3));
        is(0, () -> desk.why(5, 5));
        is(63, () -> desk.free(5, 1));
        about(24, "Returns the teacher who covered it.");
        is(5, () -> RICH.desk().uncover(1));
        for (int teacher = 1; teacher < 4; teacher++) {
            SubstituteDesk crowded = CROWDED.desk();
            int due = teacher;
            crowded.cover(3, due);
            is(due, () -> crowded.uncover(3));
        }
        SubstituteDesk first = deskOf(2);
        first.addLesson(0, 0, 0, 1, 0);
        first.setAbsent(1, 0, true);
        first.cover(0, 0);
        is(0, () -> first.uncover(0));
        about(24, "Throws IndexOutOfBoundsException if there is no such lesson");
        outside(INDEX, RICH, 0, 6, SubstituteDesk::uncover);
        untouched(INDEX, BARE, d -> d.uncover(0));
        about(24, "Throws IllegalStateException if it is not covered");
        for (int lesson : new int[] {0, 2, 3, 4, 5, 6}) {
            untouched(STATE, RICH, d -> d.uncover(lesson));
        }
        refuses(STATE, () -> desk.uncover(1));
    }

    private static void split() {
        about(25, "Splits an open lesson.");
        SubstituteDesk desk = RICH.desk();
        desk.split(4, 3, 1);
        is(2, () -> desk.lesson(4, 5));
        is(3, () -> desk.host(4, false));
        is(1, () -> desk.host(4, true));
        is(40, () -> desk.lesson(1, 7));
        is(30, () -> desk.lesson(3, 7));
        is(5, () -> desk.teacher(5, 3));
        is(1, () -> desk.teacher(3, 3));
        is(2, () -> desk.count(4));
        is(1, () -> desk.openOn(1));
        about(25, "Returns the size of the part that the first host gets.");
        is(10, () -> RICH.desk().split(4, 3, 2));
        int[][] parts = {{1, 1}, {2, 1}, {3, 2}, {29, 15}, {30, 15}};
        for (int[] pair : parts) {
            SubstituteDesk other = RICH.desk();
            other.setSize(4, pair[0]);
            is(pair[1], () -> other.split(4, 2, 3));
        }
        about(25, "Throws IndexOutOfBoundsException if there is no such lesson");
        outside(INDEX, RICH, 0, 6, (d, lesson) -> d.split(lesson, 2, 3));
        outside(INDEX, RICH, 0, 6, (d, first) -> d.split(4, first, 3));
        outside(INDEX, RICH, 0, 6, (d, second) -> d.split(4, 3, second));
        untouched(INDEX, BARE, d -> d.split(0, 0, 0));
    }

    private static void splitRefused() {
        about(25, "Throws IllegalStateException if the lesson is not open");
        int[][] hosts = {{1, 2}, {2, 3}, {1, 3}, {1, 2}, {0, 0}, {0, 0}, {5, 6}};
        for (int lesson : new int[] {0, 1, 2, 3, 6}) {
            untouched(STATE, RICH, d -> d.split(lesson, hosts[lesson][0], hosts[lesson][1]));
        }
        about(25, "Throws IllegalArgumentException if both hosts are the same, or one of them is in another slot");
        for (int host : upTo(7)) {
            untouched(ARGUMENT, RICH, d -> d.split(4, host, host));
        }
        for (int other : new int[] {5, 6}) {
            for (int host : upTo(5)) {
                untouched(ARGUMENT, RICH, d -> d.split(4, host, other));
                untouched(ARGUMENT, RICH, d -> d.split(4, other, host));
            }
        }
        untouched(ARGUMENT, RICH, d -> d.split(4, 5, 6));
        // The period alone is not the slot.
        SubstituteDesk days = slotDesk(9, 3, 3, 1);
        days.addLesson(3, 1, 0, 1, 1);
        days.addLesson(15, 2, 0, 2, 2);
        refuses(ARGUMENT, () -> days.split(0, 1, 4));
        refuses(ARGUMENT, () -> days.split(0, 3, 2));
        is(10, () -> days.split(0, 1, 2));
        about(25, "Throws UnsupportedOperationException if one of the hosts is neither taught nor covered");
        // 0 is split, 4 is the lesson itself; then another one is open.
        for (int host : new int[] {0, 4}) {
            untouched(UNSUPPORTED, RICH, d -> d.split(4, host, 3));
            untouched(UNSUPPORTED, RICH, d -> d.split(4, 3, host));
        }
        untouched(UNSUPPORTED, RICH, d -> d.split(4, 0, 4));
        Recipe open = () -> {
            SubstituteDesk d = RICH_WITHOUT_INPUT.desk();
            d.setAbsent(3, 9, true);
            return d;
        };
        untouched(UNSUPPORTED, open, d -> d.split(4, 3, 2));
        untouched(UNSUPPORTED, open, d -> d.split(4, 2, 3));
        is(10, () -> open.desk().split(4, 2, 1));
    }

    private static void splitIntoFullRooms() {
        // The size 5 of class 4 is split into 3 and 2; a taught host of 20, and a covered one with 30 already.
        for (int first : new int[] {1, 3}) {
            int load = first == 1 ? 30 : 20;
            for (int room : new int[] {0, 1}) {
                int part = room == 0 ? 3 : 2;
                for (int less : new int[] {0, 1}) {
                    Recipe recipe = () -> {
                        SubstituteDesk d = RICH_WITHOUT_INPUT.desk();
                        d.setSize(4, 5);
                        d.setCapacity(first, load + part - less);
                        return d;
                    };
                    Act act = d -> room == 0 ? d.split(4, first, 2) : d.split(4, 2, first);
                    if (less == 0) {
                        SubstituteDesk desk = recipe.desk();
                        is(3, () -> act.on(desk));
                        is(load + part, () -> desk.lesson(first, 7));
                    } else {
                        untouched(UNSUPPORTED, recipe, act);
                    }
                }
            }
        }
        // One pupil needs one seat of the first host alone.
        Recipe one = () -> {
            SubstituteDesk d = slotDesk(0, 3, 3, 1);
            d.setSize(0, 1);
            d.setCapacity(1, 21);
            d.setCapacity(2, 20);
            return d;
        };
        is(1, () -> one.desk().split(0, 1, 2));
        untouched(UNSUPPORTED, one, d -> d.split(0, 2, 1));
    }

    private static void unsplit() {
        about(26, "Ends the splitting of a lesson, which is open then.");
        SubstituteDesk desk = RICH.desk();
        desk.unsplit(0);
        is(3, () -> desk.lesson(0, 5));
        is(20, () -> desk.lesson(1, 7));
        is(20, () -> desk.lesson(2, 7));
        is(3, () -> desk.teacher(5, 3));
        is(0, () -> desk.teacher(2, 3));
        is(1, () -> desk.lesson(1, 5));
        is(3, () -> desk.openOn(1));
        about(26, "Returns the size of its class.");
        is(20, () -> RICH.desk().unsplit(0));
        for (int size : new int[] {1, 2, 29, 30}) {
            SubstituteDesk other = slotDesk(0, 3, 3, 1);
            other.setSize(0, size);
            other.split(0, 1, 2);
            is(size, () -> other.unsplit(0));
        }
        about(26, "Throws IndexOutOfBoundsException if there is no such lesson");
        outside(INDEX, RICH, 0, 6, SubstituteDesk::unsplit);
        untouched(INDEX, BARE, d -> d.unsplit(0));
        about(26, "Throws IllegalStateException if it is not split");
        for (int lesson = 1; lesson < 7; lesson++) {
            int asked = lesson;
            untouched(STATE, RICH, d -> d.unsplit(asked));
        }
        refuses(STATE, () -> desk.unsplit(0));
    }

    private static void host() {
        about(27, "Returns a host of a split lesson.");
        onlyAnswers(1, RICH, d -> d.host(0, false));
        onlyAnswers(2, RICH, d -> d.host(0, true));
        about(27, "- isSecond: true for the second host, false for the first one");
        SubstituteDesk desk = slotDesk(0, 3, 3, 3);
        desk.setAbsent(0, 0, false);
        desk.setAbsent(1, 0, false);
        desk.split(2, 1, 0);
        is(1, () -> desk.host(2, false));
        is(0, () -> desk.host(2, true));
        about(27, "Returns the number of the host.");
        desk.unsplit(2);
        desk.split(2, 0, 1);
        is(0, () -> desk.host(2, false));
        is(1, () -> desk.host(2, true));
        about(27, "Throws IndexOutOfBoundsException if there is no such lesson");
        outside(INDEX, RICH, 0, 6, (d, lesson) -> d.host(lesson, false));
        outside(INDEX, RICH, 0, 6, (d, lesson) -> d.host(lesson, true));
        untouched(INDEX, BARE, d -> d.host(0, false));
        about(27, "Throws IllegalStateException if the lesson is not split");
        for (int lesson = 1; lesson < 7; lesson++) {
            int asked = lesson;
            untouched(STATE, RICH, d -> d.host(asked, false));
            untouched(STATE, RICH, d -> d.host(asked, true));
        }
        desk.unsplit(2);
        refuses(STATE, () -> desk.host(2, false));
    }

    private static void refusal() {
        about(28, "Returns the reason that was kept last.");
        onlyAnswers(1, RICH, SubstituteDesk::refusal);
        SubstituteDesk desk = RICH.desk();
        refuses(UNSUPPORTED, () -> desk.cover(4, 5));
        refuses(UNSUPPORTED, () -> desk.cover(4, 2));
        is(3, desk::refusal);
        is(3, desk::refusal);
        // Only cover keeps a reason, and only if it is the reason that is refused.
        desk.why(4, 5);
        refuses(STATE, () -> desk.cover(0, 0));
        refuses(INDEX, () -> desk.cover(7, 0));
        refuses(NO_ELEMENT, () -> desk.suggestion(4));
        desk.coverDay(1);
        refuses(NO_ELEMENT, () -> desk.carryOut(1));
        is(3, desk::refusal);
        about(28, "Returns the reason, 1 to 5.");
        int[] teachers = {4, 0, 3, 5};
        for (int k : upTo(4)) {
            refuses(UNSUPPORTED, () -> desk.cover(4, teachers[k]));
            is(k + 1, desk::refusal);
        }
        desk.uncover(5);
        refuses(UNSUPPORTED, () -> desk.cover(5, 5));
        is(5, desk::refusal);
        about(28, "Throws NoSuchElementException if none was kept");
        untouched(NO_ELEMENT, BARE, SubstituteDesk::refusal);
        untouched(NO_ELEMENT, FULL, SubstituteDesk::refusal);
        untouched(NO_ELEMENT, CROWDED, SubstituteDesk::refusal);
        SubstituteDesk none = CROWDED.desk();
        none.why(0, 0);
        none.cover(0, 1);
        refuses(STATE, () -> none.cover(0, 0));
        refuses(NO_ELEMENT, none::refusal);
    }

    private static void coverDay() {
        about(29, "- day: the day, 0 to 4");
        SubstituteDesk ends = openDesk(2, 0, 29);
        is(1, () -> ends.coverDay(0));
        is(3, () -> ends.lesson(1, 5));
        is(1, () -> ends.coverDay(4));
        about(29, "Returns the number of covers that begin.");
        is(0, () -> BARE.desk().coverDay(0));
        is(0, () -> ends.coverDay(0));
        is(1, () -> RICH.desk().coverDay(1));
        is(0, () -> RICH.desk().coverDay(0));
        is(5, () -> CROWDED.desk().coverDay(2));
        SubstituteDesk all = CROWDED.desk();
        all.addLesson(17, 0, 0, 0, 0);
        all.setAbsent(0, 17, true);
        is(6, () -> all.coverDay(2));
        SubstituteDesk none = CROWDED.desk();
        for (int teacher : upTo(4)) {
            none.setLimit(teacher, 0);
        }
        is(0, () -> none.coverDay(2));
        about(29, "Throws IndexOutOfBoundsException if there is no such day");
        outside(INDEX, CROWDED, 0, 4, SubstituteDesk::coverDay);
        outside(INDEX, RICH, 0, 4, SubstituteDesk::coverDay);
        untouched(INDEX, BARE, d -> d.coverDay(5));
    }

    private static void coverDayInOrder() {
        about(29, "Goes through the open lessons of a day, in ascending order of their slots");
        // Three teachers with one cover each for four lessons: the first three in the order of slots and numbers.
        SubstituteDesk desk = wideDesk(6);
        int[][] lessons = {{29, 0}, {26, 1}, {24, 0}, {26, 2}, {23, 0}};
        for (int[] pair : lessons) {
            desk.addLesson(pair[0], pair[1], 0, pair[1], pair[1]);
            desk.setAbsent(pair[1], pair[0], true);
        }
        for (int teacher : upTo(6)) {
            desk.setLimit(teacher, teacher < 3 ? 0 : 1);
        }
        is(3, () -> desk.coverDay(4));
        int[] due = {-1, 4, 3, 5, -1};
        for (int lesson : upTo(5)) {
            is(due[lesson], () -> desk.lesson(lesson, 6));
        }
        // The days before and behind are left alone.
        SubstituteDesk near = openDesk(2, 11, 12, 17, 18);
        is(2, () -> near.coverDay(2));
        int[] whose = {-1, 1, 1, -1};
        for (int lesson : upTo(4)) {
            is(whose[lesson], () -> near.lesson(lesson, 6));
        }
        // What was there before the desk was cleared is not covered.
        SubstituteDesk anew = slotDesk(0, 4, 2, 0);
        anew.clear();
        for (int k : upTo(4)) {
            anew.addTeacher(63, 1);
        }
        anew.addLesson(0, 0, 0, 0, 0);
        anew.setAbsent(0, 0, true);
        anew.setAbsent(1, 0, true);
        is(1, () -> anew.coverDay(0));
        is(2, () -> anew.lesson(0, 6));
        is(0, () -> anew.teacher(3, 3));
        // A lesson that nobody can cover is passed over; each suggestion counts the covers before.
        SubstituteDesk rich = RICH.desk();
        is(1, () -> rich.coverDay(1));
        is(3, () -> rich.lesson(4, 5));
        is(3, () -> rich.lesson(5, 6));
        SubstituteDesk crowded = CROWDED.desk();
        is(5, () -> crowded.coverDay(2));
        int[] turns = {1, 2, 3, 1, 2};
        for (int lesson : upTo(5)) {
            is(turns[lesson], () -> crowded.lesson(lesson, 6));
        }
        is(7, crowded::undo);
        is(5, () -> crowded.openOn(2));
    }
}
