/** The sentences of the description on plans, and those of promises 30 to 38. */
final class PlanBounds extends Bounds {
    /** As CROWDED, with one lesson less: 4 open lessons in the slots 15, 14, 13, 12, each for the teachers 1 to 3. */
    private static final Recipe FOUR = () -> openDesk(4, 15, 14, 13, 12);

    /** One open lesson on day 0 that nobody can cover. */
    private static final Recipe HOPELESS = () -> {
        SubstituteDesk desk = deskOf(2);
        desk.addLesson(0, 0, 0, 0, 0);
        desk.setAbsent(0, 0, true);
        desk.setLimit(1, 0);
        return desk;
    };

    static void run() {
        plansOfDays();
        plansBesideOthers();
        bestPlan();
        leastSpread();
        spread();
        extreme();
        plannedSpread();
        planned();
        carryOut();
        plans();
        tooMany();
        averagePoints();
        averagePointsRefused();
        audit();
        lost();
    }

    private static void plansOfDays() {
        about(0, "A plan for a day covers all open lessons of this day, each by a teacher who can cover it");
        // For a day without open lessons there is one plan, which is empty, also without teachers.
        for (int day : upTo(5)) {
            is(1, () -> BARE.desk().plans(day));
            is(1, () -> deskOf(1).plans(day));
            is(1, () -> FULL.desk().plans(day));
            is(day == 2 ? 54 : 1, () -> FOUR.desk().plans(day));
            is(day == 0 ? 0 : 1, () -> HOPELESS.desk().plans(day));
        }
        // Who cannot cover one lesson for one of the reasons is in no plan for it.
        SubstituteDesk desk = slotDesk(3, 7, 2, 1);
        is(5, () -> desk.plans(0));
        desk.setAbsent(2, 3, true);
        is(4, () -> desk.plans(0));
        desk.addLesson(3, 3, 0, 3, 3);
        is(3, () -> desk.plans(0));
        desk.setLimit(4, 0);
        is(2, () -> desk.plans(0));
        desk.setAbsent(1, 3, true);
        is(2, () -> desk.plans(0));
        desk.cover(1, 5);
        is(1, () -> desk.plans(0));
        is(6, () -> desk.planned(0, 0));
        desk.setAbsent(6, 3, true);
        is(0, () -> desk.plans(0));
    }

    private static void plansBesideOthers() {
        // All sequences of 1 to 3 but those where one has more covers than the limit.
        int[] due = {0, 0, 54, 78};
        for (int limit : upTo(4)) {
            SubstituteDesk desk = FOUR.desk();
            for (int teacher : upTo(4)) {
                desk.setLimit(teacher, limit);
            }
            is(due[limit], () -> desk.plans(2));
            desk.setAbsent(0, 15, false);
            is(limit == 0 ? 0 : limit == 1 ? 6 : limit == 2 ? 24 : 27, () -> desk.plans(2));
        }
        // Covers that there are count for the limit, those of the same day only.
        SubstituteDesk desk = FOUR.desk();
        desk.cover(0, 1);
        is(27 - 1 - 6 - 2, () -> desk.plans(2));
        desk.cover(1, 1);
        is(4, () -> desk.plans(2));
        desk.addLesson(11, 0, 0, 0, 0);
        desk.setAbsent(0, 11, true);
        is(3, () -> desk.plans(1));
        // In one slot nobody is there twice, in the same period of two days everybody is.
        SubstituteDesk slot = slotDesk(0, 6, 3, 3);
        is(6, () -> slot.plans(0));
        slot.addLesson(1, 0, 0, 0, 0);
        slot.setAbsent(0, 1, true);
        is(6 * 5, () -> slot.plans(0));
        slot.setLimit(3, 1);
        is(6 * 4, () -> slot.plans(0));
        slot.setLimit(4, 0);
        is(0, () -> slot.plans(0));
    }

    private static void bestPlan() {
        about(0, "The best plan is one with the least spread then; of several, the one whose sequence of teachers");
        // 2, 2, 2 and 3 points: the greatest is at least 4; the lessons of FOUR have descending slots.
        int[] due = {1, 1, 2, 3};
        for (int index : upTo(4)) {
            onlyAnswers(due[index], FOUR, d -> d.planned(2, index));
        }
        onlyAnswers(48, FOUR, d -> d.plannedSpread(2));
        SubstituteDesk desk = FOUR.desk();
        is(4, () -> desk.carryOut(2));
        for (int lesson : upTo(4)) {
            is(due[3 - lesson], () -> desk.lesson(lesson, 6));
        }
        is(48, desk::spread);
        // In one slot, the lesson with the lower number comes first, whatever its class is.
        SubstituteDesk slot = wideDesk(5);
        for (int number : new int[] {2, 0, 1}) {
            slot.addLesson(8, number, 0, number, number);
            slot.setAbsent(number, 8, true);
        }
        slot.cover(1, 3);
        is(0, () -> slot.plans(1));
        slot.addTeacher(63, 1);
        is(2, () -> slot.plans(1));
        is(4, () -> slot.planned(1, 0));
        is(5, () -> slot.planned(1, 1));
        is(2, () -> slot.carryOut(1));
        is(4, () -> slot.lesson(0, 6));
        is(3, () -> slot.lesson(1, 6));
        is(5, () -> slot.lesson(2, 6));
    }

    private static void leastSpread() {
        // 1 alone has the subject, but with 2 points for weight 1 its share is 24; 2 has 4 points for weight 4.
        SubstituteDesk desk = new SubstituteDesk();
        desk.addTeacher(63, 1);
        desk.addTeacher(63, 1);
        desk.addTeacher(2, 4);
        desk.addTeacher(2, 4);
        desk.addLesson(0, 0, 0, 0, 0);
        desk.setAbsent(0, 0, true);
        is(12, () -> desk.plannedSpread(0));
        is(2, () -> desk.planned(0, 0));
        is(1, () -> desk.suggestion(0));
        // The shares that there are count: now 2 has 12, and 3 is as good as 2 was.
        desk.carryOut(0);
        desk.addLesson(1, 0, 0, 0, 0);
        desk.setAbsent(0, 1, true);
        is(12, () -> desk.plannedSpread(0));
        is(3, () -> desk.planned(0, 0));
        desk.carryOut(0);
        // The least share counts as much as the greatest one: 0 has none.
        desk.addLesson(2, 0, 0, 1, 0);
        desk.setAbsent(1, 2, true);
        is(24, () -> desk.plannedSpread(0));
        is(0, () -> desk.planned(0, 0));
        desk.setLimit(0, 0);
        is(24, () -> desk.plannedSpread(0));
        is(2, () -> desk.planned(0, 0));
    }

    private static void spread() {
        about(30, "Returns the spread.");
        onlyAnswers(24, RICH, SubstituteDesk::spread);
        onlyAnswers(0, FULL, SubstituteDesk::spread);
        SubstituteDesk desk = RICH.desk();
        desk.unsplit(0);
        is(18, desk::spread);
        about(30, "Returns the spread.");
        is(0, () -> deskOf(1).spread());
        // One teacher alone has all of the points, so the spread is nothing; a second one makes it 12.
        SubstituteDesk pair = slotDesk(0, 5, 4, 2);
        pair.split(0, 2, 3);
        is(12, pair::spread);
        for (int lesson : new int[] {0, 1}) {
            SubstituteDesk only = deskOf(2);
            only.addLesson(5, 0, 0, lesson, 0);
            only.setAbsent(lesson, 5, true);
            only.cover(0, 1 - lesson);
            is(48, only::spread);
        }
        about(30, "Throws NoSuchElementException if there are no teachers");
        untouched(NO_ELEMENT, BARE, SubstituteDesk::spread);
        SubstituteDesk cleared = deskOf(1);
        is(0, cleared::spread);
        cleared.clear();
        refuses(NO_ELEMENT, cleared::spread);
    }

    private static void extreme() {
        about(31, "Returns the teacher with the least share, or the greatest one; the one with the lowest number");
        onlyAnswers(5, RICH, d -> d.extreme(true));
        onlyAnswers(0, RICH, d -> d.extreme(false));
        onlyAnswers(0, FULL, d -> d.extreme(true));
        onlyAnswers(0, FULL, d -> d.extreme(false));
        about(31, "- isGreatest: true for the greatest share");
        SubstituteDesk desk = deskOf(3);
        for (int k : upTo(3)) {
            desk.addLesson(k, 0, 0, k, 0);
            desk.setAbsent(k, k, true);
        }
        desk.cover(1, 0);
        is(0, () -> desk.extreme(true));
        is(1, () -> desk.extreme(false));
        about(31, "Returns the number of the teacher.");
        desk.cover(0, 2);
        is(0, () -> desk.extreme(true));
        is(1, () -> desk.extreme(false));
        desk.cover(2, 1);
        is(0, () -> desk.extreme(true));
        is(0, () -> desk.extreme(false));
        desk.uncover(1);
        is(1, () -> desk.extreme(true));
        is(0, () -> desk.extreme(false));
        desk.uncover(2);
        is(2, () -> desk.extreme(true));
        // It is the share, not the points.
        SubstituteDesk shares = new SubstituteDesk();
        shares.addTeacher(63, 3);
        shares.addTeacher(63, 1);
        shares.addTeacher(63, 4);
        shares.addLesson(5, 0, 0, 2, 0);
        shares.addLesson(0, 0, 0, 2, 0);
        shares.setAbsent(2, 5, true);
        shares.setAbsent(2, 0, true);
        shares.cover(0, 0);
        shares.cover(1, 1);
        is(1, () -> shares.extreme(true));
        sharesThatDifferByOne(1, 2);
        sharesThatDifferByOne(2, 1);
        about(31, "Throws NoSuchElementException if there are no teachers");
        untouched(NO_ELEMENT, BARE, d -> d.extreme(true));
        untouched(NO_ELEMENT, BARE, d -> d.extreme(false));
        is(0, () -> deskOf(1).extreme(true));
        is(0, () -> deskOf(1).extreme(false));
    }

    /** The shares are 4 for one and 3 for the other; then teacher 0 covers a lesson, and so has more than both. */
    private static void sharesThatDifferByOne(int four, int three) {
        SubstituteDesk desk = new SubstituteDesk();
        desk.addTeacher(63, 1);
        desk.addTeacher(63, four == 1 ? 3 : 4);
        desk.addTeacher(63, four == 1 ? 4 : 3);
        for (int k : upTo(3)) {
            desk.setCapacity(k, 60);
            desk.addLesson(0, k, 0, k, k);
        }
        desk.setAbsent(0, 0, true);
        desk.split(0, 1, 2);
        is(four, () -> desk.extreme(true));
        is(0, () -> desk.extreme(false));
        desk.addLesson(1, 1, 0, 1, 1);
        desk.setAbsent(1, 1, true);
        desk.cover(3, 0);
        is(0, () -> desk.extreme(true));
        is(three, () -> desk.extreme(false));
        is(24 - 3, desk::spread);
    }

    private static void plannedSpread() {
        about(32, "Returns the spread with the best plan for a day.");
        onlyAnswers(24, RICH, d -> d.plannedSpread(4));
        SubstituteDesk desk = RICH.desk();
        desk.setAbsent(4, 9, false);
        // 5 has 24, and lesson 5 by 1, 2 or 3 makes no share greater than that.
        is(24, () -> desk.plannedSpread(1));
        is(1, () -> desk.planned(1, 0));
        about(32, "Returns the spread.");
        // The least share is not always 0: 24 and 48 become 72 and 48.
        SubstituteDesk two = mutualDesk();
        is(24, () -> two.plannedSpread(4));
        two.addLesson(29, 0, 0, 0, 0);
        two.setAbsent(0, 29, true);
        is(72 - 48, () -> two.plannedSpread(4));
        is(24, () -> desk.plannedSpread(0));
        is(0, () -> FULL.desk().plannedSpread(0));
        is(0, () -> deskOf(1).plannedSpread(4));
        about(32, "- day: the day, 0 to 4");
        SubstituteDesk ends = openDesk(2, 0, 29);
        is(24, () -> ends.plannedSpread(0));
        is(0, () -> ends.plannedSpread(1));
        is(48, () -> ends.plannedSpread(4));
        about(32, "Throws IndexOutOfBoundsException if there is no such day");
        outside(INDEX, FOUR, 0, 4, SubstituteDesk::plannedSpread);
        untouched(INDEX, BARE, d -> d.plannedSpread(5));
        about(32, "Throws NoSuchElementException if there are no teachers, or there is no plan");
        for (int day : upTo(5)) {
            untouched(NO_ELEMENT, BARE, d -> d.plannedSpread(day));
        }
        untouched(NO_ELEMENT, HOPELESS, d -> d.plannedSpread(0));
        untouched(NO_ELEMENT, RICH, d -> d.plannedSpread(1));
        is(0, () -> HOPELESS.desk().plannedSpread(1));
    }

    private static void planned() {
        about(33, "Returns a teacher of the best plan for a day.");
        SubstituteDesk desk = slotDesk(6, 4, 2, 2);
        is(2, () -> desk.planned(1, 0));
        is(3, () -> desk.planned(1, 1));
        about(33, "- day: the day, 0 to 4");
        SubstituteDesk ends = openDesk(2, 0, 29);
        is(1, () -> ends.planned(0, 0));
        is(1, () -> ends.planned(4, 0));
        about(33, "- index: the index of the lesson among the open ones of the day, as for open");
        // Slot 12 is free for 3 alone, slot 13 for 2 alone, slot 14 for 1 alone; the numbers descend.
        SubstituteDesk order = FOUR.desk();
        for (int teacher = 1; teacher < 4; teacher++) {
            for (int period : upTo(3)) {
                if (period + teacher != 3) {
                    order.setAbsent(teacher, 12 + period, true);
                }
            }
        }
        for (int index : upTo(3)) {
            is(3 - index, () -> order.open(2, index));
            is(3 - index, () -> order.planned(2, index));
        }
        about(33, "Returns the number of the teacher.");
        SubstituteDesk first = deskOf(2);
        first.addLesson(0, 0, 0, 1, 0);
        first.setAbsent(1, 0, true);
        is(0, () -> first.planned(0, 0));
        about(33, "Throws IndexOutOfBoundsException if there is no such day");
        outside(INDEX, FOUR, 0, 4, (d, day) -> d.planned(day, 0));
        untouched(INDEX, BARE, d -> d.planned(5, 0));
        about(33, "Throws NoSuchElementException if there is no plan, or no such lesson");
        outside(NO_ELEMENT, FOUR, 0, 3, (d, index) -> d.planned(2, index));
        untouched(NO_ELEMENT, FOUR, d -> d.planned(0, 0));
        untouched(NO_ELEMENT, BARE, d -> d.planned(0, 0));
        untouched(NO_ELEMENT, HOPELESS, d -> d.planned(0, 0));
        untouched(NO_ELEMENT, RICH, d -> d.planned(1, 0));
        // What an earlier and longer plan told is not told again.
        SubstituteDesk shorter = FOUR.desk();
        is(3, () -> shorter.planned(2, 3));
        shorter.cover(0, 3);
        refuses(NO_ELEMENT, () -> shorter.planned(2, 3));
        is(2, () -> shorter.planned(2, 2));
    }

    private static void carryOut() {
        about(34, "Carries out the best plan for a day.");
        SubstituteDesk desk = FOUR.desk();
        desk.carryOut(2);
        int[] due = {3, 2, 1, 1};
        int[] points = {0, 4, 2, 3};
        for (int k : upTo(4)) {
            is(1, () -> desk.lesson(k, 5));
            is(due[k], () -> desk.lesson(k, 6));
            is(points[k], () -> desk.teacher(k, 3));
        }
        is(7, desk::undo);
        is(4, () -> desk.openOn(2));
        is(0, desk::spread);
        about(34, "Returns the number of covers that begin.");
        is(4, () -> FOUR.desk().carryOut(2));
        is(0, () -> FOUR.desk().carryOut(1));
        is(0, () -> deskOf(1).carryOut(0));
        SubstituteDesk less = FOUR.desk();
        for (int left = 3; left >= 1; left--) {
            int covers = left;
            less.cover(covers, 1 + covers % 3);
            is(covers, () -> less.carryOut(2));
            less.undo();
        }
        about(34, "- day: the day, 0 to 4");
        SubstituteDesk ends = openDesk(2, 0, 29);
        is(1, () -> ends.carryOut(0));
        is(3, () -> ends.lesson(1, 5));
        is(1, () -> ends.carryOut(4));
        is(1, () -> ends.lesson(1, 5));
        about(34, "Throws IndexOutOfBoundsException if there is no such day");
        outside(INDEX, FOUR, 0, 4, SubstituteDesk::carryOut);
        untouched(INDEX, BARE, d -> d.carryOut(5));
        about(34, "Throws NoSuchElementException if there are no teachers, or there is no plan");
        for (int day : upTo(5)) {
            untouched(NO_ELEMENT, BARE, d -> d.carryOut(day));
        }
        untouched(NO_ELEMENT, HOPELESS, d -> d.carryOut(0));
        untouched(NO_ELEMENT, RICH, d -> d.carryOut(1));
    }

    private static void plans() {
        about(35, "Returns the number of plans for a day.");
        onlyAnswers(54, FOUR, d -> d.plans(2));
        onlyAnswers(0, RICH, d -> d.plans(1));
        onlyAnswers(1, RICH, d -> d.plans(0));
        about(35, "Returns the number.");
        // 7 other teachers for each of 4 lessons: the most that there can be, with the limits 3, 2, 1 and 0.
        SubstituteDesk desk = openDesk(8, 12, 13, 14, 15);
        int[] due = {0, 7 * 6 * 5 * 4, 7 * 7 * 7 * 7 - 7 - 7 * 4 * 6, 7 * 7 * 7 * 7 - 7};
        for (int limit = 3; limit >= 0; limit--) {
            int most = due[limit];
            for (int teacher : upTo(8)) {
                desk.setLimit(teacher, limit);
            }
            is(most, () -> desk.plans(2));
        }
        about(35, "- day: the day, 0 to 4");
        SubstituteDesk ends = openDesk(3, 5, 24);
        is(2, () -> ends.plans(0));
        is(1, () -> ends.plans(1));
        is(1, () -> ends.plans(3));
        is(2, () -> ends.plans(4));
        about(35, "Throws IndexOutOfBoundsException if there is no such day");
        outside(INDEX, FOUR, 0, 4, SubstituteDesk::plans);
        outside(INDEX, BARE, 0, 4, SubstituteDesk::plans);
    }

    private static void tooMany() {
        // Four open lessons are few enough, as above; five are too many, on their day alone.
        for (int promise = 32; promise <= 35; promise++) {
            Act[] acts = {d -> d.plannedSpread(2), d -> d.planned(2, 0), d -> d.carryOut(2), d -> d.plans(2)};
            Act act = acts[promise - 32];
            about(promise, "Throws IllegalStateException if the day has more than 4 open lessons");
            untouched(STATE, CROWDED, act);
            untouched(STATE, () -> {
                SubstituteDesk six = CROWDED.desk();
                six.addLesson(17, 0, 0, 0, 0);
                six.setAbsent(0, 17, true);
                return six;
            }, act);
            int[] due = {48, 1, 4, 54};
            for (int lesson : new int[] {0, 4}) {
                SubstituteDesk four = CROWDED.desk();
                four.removeLesson(lesson);
                is(due[promise - 32], () -> act.on(four));
            }
            SubstituteDesk days = CROWDED.desk();
            is(0, () -> days.plannedSpread(1));
            is(1, () -> days.plans(3));
            is(0, () -> days.carryOut(0));
        }
    }

    private static void averagePoints() {
        about(36, "Returns the average of the points of some teachers: the sum of their points divided by");
        // Points 0, 0, 1, 0, 0, 4, 0.
        int[] points = {0, 0, 1, 0, 0, 4, 0};
        for (int teacher : upTo(7)) {
            onlyAnswers(points[teacher], RICH, d -> d.averagePoints(1 << teacher));
        }
        is(2.5, () -> RICH.desk().averagePoints(36));
        is(5.0 / 3.0, () -> RICH.desk().averagePoints(37));
        is(5.0 / 7.0, () -> RICH.desk().averagePoints(127));
        is(0.5, () -> RICH.desk().averagePoints(6));
        about(36, "Returns the average.");
        is(0, () -> FULL.desk().averagePoints(255));
        is(0, () -> deskOf(1).averagePoints(1));
        SubstituteDesk desk = FOUR.desk();
        desk.carryOut(2);
        is(3, () -> desk.averagePoints(14));
        is(9.0 / 4.0, () -> desk.averagePoints(15));
        is(4, () -> desk.averagePoints(2));
        is(3.5, () -> desk.averagePoints(10));
    }

    private static void averagePointsRefused() {
        about(36, "Throws IllegalArgumentException if a teacher of the set does not exist");
        for (int number : upTo(9)) {
            SubstituteDesk desk = deskOf(Math.min(number, 8));
            for (int bit = number; bit < 32; bit++) {
                int set = 1 << bit;
                refuses(ARGUMENT, () -> desk.averagePoints(set));
                refuses(ARGUMENT, () -> desk.averagePoints(set | (1 << number) - 1));
            }
            refuses(ARGUMENT, () -> desk.averagePoints(-1));
            if (number > 0) {
                is(0, () -> desk.averagePoints((1 << number) - 1));
                is(0, () -> desk.averagePoints(1 << number - 1));
            }
        }
        outside(ARGUMENT, RICH, 0, 127, SubstituteDesk::averagePoints);
        untouched(ARGUMENT, BARE, d -> d.averagePoints(1));
        about(36, "Throws ArithmeticException if the set is empty");
        untouched(ARITHMETIC, RICH, d -> d.averagePoints(0));
        untouched(ARITHMETIC, FULL, d -> d.averagePoints(0));
        untouched(ARITHMETIC, BARE, d -> d.averagePoints(0));
    }

    private static void audit() {
        about(37, "Returns the number of teachers whose points are not the sum of the points of their present covers");
        onlyAnswers(0, BARE, SubstituteDesk::audit);
        onlyAnswers(0, RICH, SubstituteDesk::audit);
        onlyAnswers(0, FULL, SubstituteDesk::audit);
        about(37, "Returns the number of teachers.");
        Act[] acts = {
            d -> d.setAbsent(5, 9, true), d -> d.setAbsent(2, 9, true), d -> d.setAbsent(1, 9, false),
            d -> d.setAbsent(0, 9, false), d -> d.uncover(1), d -> d.unsplit(0), d -> d.removeLesson(0),
            d -> d.removeLesson(1), d -> d.removeLesson(2), d -> d.split(4, 2, 1), d -> d.cover(5, 6),
            d -> d.coverDay(1), d -> d.undo(), d -> d.restore(), d -> d.clear(), d -> readText(d, "0@5;"),
        };
        for (Act act : acts) {
            SubstituteDesk desk = RICH.desk();
            act.on(desk);
            is(0, desk::audit);
        }
    }

    private static void lost() {
        about(38, "Returns the number of lessons of a class that are open or split, on all days.");
        int[] due = {2, 0, 0, 0, 1, 0};
        for (int number : upTo(6)) {
            onlyAnswers(due[number], RICH, d -> d.lost(number));
        }
        about(38, "- number: the number of the class, 0 to 5");
        SubstituteDesk last = RICH.desk();
        last.setAbsent(3, 29, true);
        is(1, () -> last.lost(5));
        is(2, () -> last.lost(0));
        about(38, "Returns the number.");
        is(5, () -> CROWDED.desk().lost(0));
        is(0, () -> CROWDED.desk().lost(1));
        SubstituteDesk week = deskOf(2);
        for (int slot : upTo(30)) {
            week.addLesson(slot, 2, 0, 0, 0);
            week.setAbsent(0, slot, true);
            is(slot + 1, () -> week.lost(2));
        }
        week.cover(0, 1);
        week.setAbsent(0, 29, false);
        is(28, () -> week.lost(2));
        SubstituteDesk split = slotDesk(0, 3, 3, 1);
        is(1, () -> split.lost(0));
        split.split(0, 1, 2);
        is(1, () -> split.lost(0));
        is(0, () -> split.lost(1));
        split.setAbsent(0, 0, false);
        is(0, () -> split.lost(0));
        is(0, () -> BARE.desk().lost(0));
        about(38, "Throws IndexOutOfBoundsException if there is no such class");
        outside(INDEX, RICH, 0, 5, SubstituteDesk::lost);
        outside(INDEX, BARE, 0, 5, SubstituteDesk::lost);
    }
}
