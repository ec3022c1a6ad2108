import java.util.NoSuchElementException;

/**
 * A desk for substitutes in a school. What each method promises stands in the project's document; here stands how.
 *
 * The whole state that a change can alter is one School, so that undo, save and a refused text are plain copies.
 * All rows are made in constructors, so that a call makes no object but an exception.
 */
public final class SubstituteDesk {
    private static final int DAYS = 5;
    private static final int PERIODS = 6;
    private static final int SLOTS = 30;
    private static final int SUBJECTS = 6;
    private static final int CLASSES = 6;
    private static final int ROOMS = 6;

    private static final int MOST_TEACHERS = 8;
    private static final int MOST_LESSONS = 40;
    private static final int MOST_CHANGES = 8;
    private static final int MOST_PLANNED = 4;
    private static final int MOST_SIGNS = 70;
    private static final int LONGEST_LINE = 12;

    private static final int ALL_SUBJECTS = 63;
    private static final int GREATEST_WEIGHT = 4;
    private static final int GREATEST_LIMIT = 3;
    private static final int FIRST_LIMIT = 2;
    private static final int GREATEST_SIZE = 30;
    private static final int FIRST_SIZE = 20;
    private static final int LEAST_CAPACITY = 10;
    private static final int GREATEST_CAPACITY = 60;
    private static final int FIRST_CAPACITY = 30;
    private static final int SHARE_UNIT = 12;
    private static final int FIRST_SIGN = 32;
    private static final int LAST_SIGN = 126;

    private static final int NONE = -1;

    private static final int TAUGHT = 0;
    private static final int COVERED = 1;
    private static final int SPLIT = 2;
    private static final int OPEN = 3;

    private static final int OWN_LESSON = 1;
    private static final int IS_ABSENT = 2;
    private static final int HAS_LESSON = 3;
    private static final int HAS_COVER = 4;
    private static final int AT_LIMIT = 5;

    private static final int FITS = 0;
    private static final int OUT_OF_RANGE = 1;
    private static final int COLLIDES = 2;
    private static final int NO_PLACE = 3;

    private final School school = new School();
    private final School saved = new School();
    private final School beforeRead = new School();
    private final History history = new History();
    private final Planner planner = new Planner();
    private final Input input = new Input();
    private final Line line = new Line();
    private boolean isSaved = false;
    private int keptReason = NONE;
    private int keptErrorPosition = NONE;

    public SubstituteDesk() {
    }

    // ---- the school

    public int clear() {
        int lessons = school.lessonCount;
        school.reset();
        history.forget();
        return lessons;
    }

    public int addTeacher(int subjects, int weight) throws IllegalArgumentException, IllegalStateException {
        needRange(subjects, 1, ALL_SUBJECTS);
        needRange(weight, 1, GREATEST_WEIGHT);
        if (school.teacherCount >= MOST_TEACHERS) {
            throw new IllegalStateException("there are 8 teachers");
        }
        history.remember(school);
        return school.putTeacher(subjects, weight);
    }

    public int setLimit(int teacher, int limit) throws IndexOutOfBoundsException, IllegalArgumentException {
        needTeacher(teacher);
        needRange(limit, 0, GREATEST_LIMIT);
        history.remember(school);
        return swap(school.limits, teacher, limit);
    }

    public int setSize(int number, int size)
            throws IndexOutOfBoundsException, IllegalArgumentException, IllegalStateException {
        needIndex(number, CLASSES);
        needRange(size, 1, GREATEST_SIZE);
        if (!school.allowsSize(number, size)) {
            throw new IllegalStateException("a lesson of the class is split, or its room is too small");
        }
        history.remember(school);
        return swap(school.sizes, number, size);
    }

    public int setCapacity(int room, int capacity)
            throws IndexOutOfBoundsException, IllegalArgumentException, IllegalStateException {
        needIndex(room, ROOMS);
        needRange(capacity, LEAST_CAPACITY, GREATEST_CAPACITY);
        if (!school.allowsCapacity(room, capacity)) {
            throw new IllegalStateException("a lesson in the room needs more");
        }
        history.remember(school);
        return swap(school.capacities, room, capacity);
    }

    public int addLesson(int slot, int number, int subject, int teacher, int room)
            throws IllegalArgumentException, UnsupportedOperationException, IllegalStateException {
        switch (school.faultOfLesson(slot, number, subject, teacher, room)) {
            case OUT_OF_RANGE:
                throw new IllegalArgumentException("a number is out of range");
            case COLLIDES:
                throw new UnsupportedOperationException("the lesson collides with another, or its room is too small");
            case NO_PLACE:
                throw new IllegalStateException("there are 40 lessons");
            default:
                history.remember(school);
                return school.putLesson(slot, number, subject, teacher, room);
        }
    }

    public int removeLesson(int lesson) throws IndexOutOfBoundsException {
        needLesson(lesson);
        history.remember(school);
        school.dropLesson(lesson);
        return school.lessonCount;
    }

    public int setRoom(int lesson, int room)
            throws IndexOutOfBoundsException, IllegalArgumentException, IllegalStateException {
        needLesson(lesson);
        needRange(room, 0, ROOMS - 1);
        if (!school.allowsRoom(lesson, room)) {
            throw new IllegalStateException("another lesson has the room, or it is too small");
        }
        history.remember(school);
        return swap(school.rooms, lesson, room);
    }

    public int count(int what) throws IllegalArgumentException {
        switch (what) {
            case 0:
                return school.teacherCount;
            case 1:
                return school.lessonCount;
            case 2:
                return school.lessonsIn(TAUGHT);
            case 3:
                return school.lessonsIn(COVERED);
            case 4:
                return school.lessonsIn(SPLIT);
            case 5:
                return school.lessonsIn(OPEN);
            case 6:
                return school.undoneCovers;
            case 7:
                return school.undoneSplits;
            default:
                throw new IllegalArgumentException("there is no such number to ask for");
        }
    }

    public int lesson(int lesson, int what) throws IndexOutOfBoundsException, IllegalArgumentException {
        needLesson(lesson);
        switch (what) {
            case 0:
                return at(school.slots, lesson);
            case 1:
                return at(school.classes, lesson);
            case 2:
                return at(school.topics, lesson);
            case 3:
                return at(school.owners, lesson);
            case 4:
                return at(school.rooms, lesson);
            case 5:
                return school.stateOf(lesson);
            case 6:
                return school.actingOf(lesson);
            case 7:
                return school.loadOf(lesson);
            default:
                throw new IllegalArgumentException("there is no such number to ask for");
        }
    }

    public int teacher(int teacher, int what) throws IndexOutOfBoundsException, IllegalArgumentException {
        needTeacher(teacher);
        switch (what) {
            case 0:
                return at(school.subjects, teacher);
            case 1:
                return at(school.weights, teacher);
            case 2:
                return at(school.limits, teacher);
            case 3:
                return at(school.points, teacher);
            case 4:
                return school.shareOf(teacher);
            case 5:
                return school.ownLessons(teacher);
            case 6:
                return school.coversOf(teacher);
            case 7:
                return school.untaughtLessons(teacher);
            default:
                throw new IllegalArgumentException("there is no such number to ask for");
        }
    }

    public int lessonOf(int slot, int number) throws IndexOutOfBoundsException, NoSuchElementException {
        needIndex(slot, SLOTS);
        needIndex(number, CLASSES);
        int lesson = school.lessonIn(slot, school.classes, number);
        if (lesson == NONE) {
            throw new NoSuchElementException("the class has no lesson in the slot");
        }
        return lesson;
    }

    // ---- absences

    public int setAbsent(int teacher, int slot, boolean isAbsent)
            throws IndexOutOfBoundsException, IllegalStateException {
        needTeacher(teacher);
        needIndex(slot, SLOTS);
        if (school.isAbsentIn(teacher, slot) == isAbsent) {
            throw new IllegalStateException("the teacher is already so");
        }
        history.remember(school);
        return school.turnAbsence(teacher, slot);
    }

    public int absent(int teacher, int day) throws IndexOutOfBoundsException {
        needTeacher(teacher);
        needIndex(day, DAYS);
        return school.absentPeriods(teacher, day);
    }

    public int free(int teacher, int day) throws IndexOutOfBoundsException {
        needTeacher(teacher);
        needIndex(day, DAYS);
        return school.freePeriods(teacher, day);
    }

    public int freeRooms(int slot) throws IndexOutOfBoundsException {
        needIndex(slot, SLOTS);
        return school.roomsFreeIn(slot);
    }

    public int openOn(int day) throws IndexOutOfBoundsException {
        needIndex(day, DAYS);
        return school.openCount(day);
    }

    public int open(int day, int index) throws IndexOutOfBoundsException, NoSuchElementException {
        needIndex(day, DAYS);
        int lesson = school.openAt(day, index);
        if (lesson == NONE) {
            throw new NoSuchElementException("there is no such open lesson");
        }
        return lesson;
    }

    // ---- covers and splittings

    public int why(int lesson, int teacher) throws IndexOutOfBoundsException, IllegalStateException {
        needLesson(lesson);
        needTeacher(teacher);
        needState(lesson, OPEN);
        return school.reasonAgainst(lesson, teacher);
    }

    public int points(int lesson, int teacher) throws IndexOutOfBoundsException {
        needLesson(lesson);
        needTeacher(teacher);
        return school.pointsFor(lesson, teacher);
    }

    public int suggestion(int lesson)
            throws IndexOutOfBoundsException, IllegalStateException, NoSuchElementException {
        needLesson(lesson);
        needState(lesson, OPEN);
        int teacher = school.bestFor(lesson);
        if (teacher == NONE) {
            throw new NoSuchElementException("no teacher can cover the lesson");
        }
        return teacher;
    }

    public int cover(int lesson, int teacher)
            throws IndexOutOfBoundsException, IllegalStateException, UnsupportedOperationException {
        needLesson(lesson);
        needTeacher(teacher);
        needState(lesson, OPEN);
        int reason = school.reasonAgainst(lesson, teacher);
        if (reason != 0) {
            keptReason = reason;
            throw new UnsupportedOperationException("the teacher cannot cover the lesson");
        }
        history.remember(school);
        school.beginCover(lesson, teacher);
        return school.pointsFor(lesson, teacher);
    }

    public int uncover(int lesson) throws IndexOutOfBoundsException, IllegalStateException {
        needLesson(lesson);
        needState(lesson, COVERED);
        history.remember(school);
        int teacher = school.actingOf(lesson);
        school.endSplitsWith(lesson);
        school.endCover(lesson);
        return teacher;
    }

    public int split(int lesson, int first, int second)
            throws IndexOutOfBoundsException, IllegalStateException, IllegalArgumentException,
            UnsupportedOperationException {
        needLesson(lesson);
        needLesson(first);
        needLesson(second);
        needState(lesson, OPEN);
        if (first == second || !school.areTogether(lesson, first) || !school.areTogether(lesson, second)) {
            throw new IllegalArgumentException("the hosts are the same, or one is in another slot");
        }
        int firstPart = school.firstPart(lesson);
        if (!school.canHost(first, firstPart) || !school.canHost(second, school.secondPart(lesson))) {
            throw new UnsupportedOperationException("a host has no acting teacher, or its room is too small");
        }
        history.remember(school);
        school.beginSplit(lesson, first, second);
        return firstPart;
    }

    public int unsplit(int lesson) throws IndexOutOfBoundsException, IllegalStateException {
        needLesson(lesson);
        needState(lesson, SPLIT);
        history.remember(school);
        school.endSplit(lesson);
        return school.sizeOf(lesson);
    }

    public int host(int lesson, boolean isSecond) throws IndexOutOfBoundsException, IllegalStateException {
        needLesson(lesson);
        needState(lesson, SPLIT);
        return at(isSecond ? school.seconds : school.firsts, lesson);
    }

    public int refusal() throws NoSuchElementException {
        if (keptReason == NONE) {
            throw new NoSuchElementException("no reason was kept");
        }
        return keptReason;
    }

    public int coverDay(int day) throws IndexOutOfBoundsException {
        needIndex(day, DAYS);
        history.remember(school);
        return school.coverOpenLessons(day);
    }

    // ---- fairness and plans

    public int spread() throws NoSuchElementException {
        needTeachers();
        return school.shareOf(school.extremeTeacher(true)) - school.shareOf(school.extremeTeacher(false));
    }

    public int extreme(boolean isGreatest) throws NoSuchElementException {
        needTeachers();
        return school.extremeTeacher(isGreatest);
    }

    public int plannedSpread(int day)
            throws IndexOutOfBoundsException, IllegalStateException, NoSuchElementException {
        planDay(day);
        needTeachers();
        needPlan();
        return planner.bestSpread;
    }

    public int planned(int day, int index)
            throws IndexOutOfBoundsException, IllegalStateException, NoSuchElementException {
        planDay(day);
        needPlan();
        if (!isWithin(index, 0, planner.lessonCount - 1)) {
            throw new NoSuchElementException("there is no such open lesson");
        }
        return at(planner.best, index);
    }

    public int carryOut(int day) throws IndexOutOfBoundsException, IllegalStateException, NoSuchElementException {
        planDay(day);
        needTeachers();
        needPlan();
        history.remember(school);
        for (int k = 0; k < planner.lessonCount; k++) {
            school.beginCover(at(planner.lessons, k), at(planner.best, k));
        }
        return planner.lessonCount;
    }

    public int plans(int day) throws IndexOutOfBoundsException, IllegalStateException {
        planDay(day);
        return planner.planCount;
    }

    public double averagePoints(int teachers) throws IllegalArgumentException, ArithmeticException {
        if (teachers >>> school.teacherCount != 0) {
            throw new IllegalArgumentException("a teacher of the set does not exist");
        }
        int number = Integer.bitCount(teachers);
        if (number == 0) {
            throw new ArithmeticException("the set is empty");
        }
        return (double) school.pointsOfAll(teachers) / (double) number;
    }

    public int audit() {
        int wrong = 0;
        for (int teacher = 0; teacher < school.teacherCount; teacher++) {
            if (at(school.points, teacher) != school.pointsFoundAnew(teacher)) {
                wrong++;
            }
        }
        return wrong;
    }

    public int lost(int number) throws IndexOutOfBoundsException {
        needIndex(number, CLASSES);
        return school.lostLessons(number);
    }

    // ---- texts, history and saving

    public int append(char character) throws IllegalArgumentException, IllegalStateException {
        needRange(character, FIRST_SIGN, LAST_SIGN);
        if (input.length >= MOST_SIGNS) {
            throw new IllegalStateException("the input is full");
        }
        input.add(character);
        return input.length;
    }

    public int read() throws IllegalArgumentException, IllegalStateException {
        int errorPosition = input.firstError();
        if (errorPosition != NONE) {
            input.length = 0;
            keptErrorPosition = errorPosition;
            throw new IllegalArgumentException("the input is not a text");
        }
        beforeRead.copyFrom(school);
        int entries = input.tellTo(school);
        input.length = 0;
        if (entries == NONE) {
            school.copyFrom(beforeRead);
            throw new IllegalStateException("an entry cannot be done");
        }
        history.remember(beforeRead);
        return entries;
    }

    public int errorPosition() throws NoSuchElementException {
        if (keptErrorPosition == NONE) {
            throw new NoSuchElementException("no error position was kept");
        }
        return keptErrorPosition;
    }

    public int describe(int lesson, int index) throws IndexOutOfBoundsException, NoSuchElementException {
        needLesson(lesson);
        line.writeLesson(school, lesson);
        if (index == -1) {
            return line.length;
        }
        if (!isWithin(index, 0, line.length - 1)) {
            throw new NoSuchElementException("there is no such character");
        }
        return signAt(line.signs, index);
    }

    public int undo() throws NoSuchElementException {
        if (history.remembered == 0) {
            throw new NoSuchElementException("no change is remembered");
        }
        history.goBack(school);
        return history.remembered;
    }

    public int save() {
        saved.copyFrom(school);
        isSaved = true;
        return school.lessonCount;
    }

    public int restore() throws IllegalStateException {
        if (!isSaved) {
            throw new IllegalStateException("nothing was saved");
        }
        school.copyFrom(saved);
        history.forget();
        return school.lessonCount;
    }

    // ---- what calls need

    private static void needIndex(int index, int length) {
        if (!isWithin(index, 0, length - 1)) {
            throw new IndexOutOfBoundsException("there is no such number");
        }
    }

    private static void needRange(int number, int least, int greatest) {
        if (!isWithin(number, least, greatest)) {
            throw new IllegalArgumentException("a number is out of range");
        }
    }

    private void needTeacher(int teacher) {
        needIndex(teacher, school.teacherCount);
    }

    private void needLesson(int lesson) {
        needIndex(lesson, school.lessonCount);
    }

    private void needState(int lesson, int state) {
        if (school.stateOf(lesson) != state) {
            throw new IllegalStateException("the lesson is in another state");
        }
    }

    private void needTeachers() {
        if (school.teacherCount == 0) {
            throw new NoSuchElementException("there are no teachers");
        }
    }

    private void needPlan() {
        if (planner.planCount == 0) {
            throw new NoSuchElementException("there is no plan");
        }
    }

    private void planDay(int day) {
        needIndex(day, DAYS);
        if (school.openCount(day) > MOST_PLANNED) {
            throw new IllegalStateException("the day has more than 4 open lessons");
        }
        planner.findPlans(school, day);
    }

    // ---- rows: every index is looked at here, so that no row can throw by itself

    private static boolean isWithin(int number, int least, int greatest) {
        return least <= number && number <= greatest;
    }

    private static int at(int[] row, int index) {
        return index >= 0 && index < row.length ? row[index] : 0;
    }

    private static void put(int[] row, int index, int number) {
        if (index >= 0 && index < row.length) {
            row[index] = number;
        }
    }

    private static int swap(int[] row, int index, int number) {
        int previous = at(row, index);
        put(row, index, number);
        return previous;
    }

    private static char signAt(char[] row, int index) {
        return index >= 0 && index < row.length ? row[index] : ' ';
    }

    private static void fill(int[] row, int number) {
        for (int k = 0; k < row.length; k++) {
            row[k] = number;
        }
    }

    private static void copy(int[] from, int[] to) {
        for (int k = 0; k < from.length && k < to.length; k++) {
            to[k] = from[k];
        }
    }

    private static void dropFrom(int[] row, int index) {
        for (int k = Math.max(index, 0); k < row.length - 1; k++) {
            row[k] = row[k + 1];
        }
    }

    /** Teachers, classes, rooms and lessons with their covers and splittings: all that a change alters. */
    private static final class School {
        private int teacherCount = 0;
        private int lessonCount = 0;
        private int undoneCovers = 0;
        private int undoneSplits = 0;

        private final int[] subjects = new int[MOST_TEACHERS];
        private final int[] weights = new int[MOST_TEACHERS];
        private final int[] limits = new int[MOST_TEACHERS];
        private final int[] points = new int[MOST_TEACHERS];
        private final int[] absences = new int[MOST_TEACHERS];

        private final int[] sizes = new int[CLASSES];
        private final int[] capacities = new int[ROOMS];

        private final int[] slots = new int[MOST_LESSONS];
        private final int[] classes = new int[MOST_LESSONS];
        private final int[] topics = new int[MOST_LESSONS];
        private final int[] owners = new int[MOST_LESSONS];
        private final int[] rooms = new int[MOST_LESSONS];
        private final int[] coverers = new int[MOST_LESSONS];
        private final int[] firsts = new int[MOST_LESSONS];
        private final int[] seconds = new int[MOST_LESSONS];

        private School() {
            reset();
        }

        // What stands in rows behind teacherCount and lessonCount is never looked at: putting overwrites it.
        private void reset() {
            teacherCount = 0;
            lessonCount = 0;
            undoneCovers = 0;
            undoneSplits = 0;
            fill(sizes, FIRST_SIZE);
            fill(capacities, FIRST_CAPACITY);
        }

        private void copyFrom(School other) {
            teacherCount = other.teacherCount;
            lessonCount = other.lessonCount;
            undoneCovers = other.undoneCovers;
            undoneSplits = other.undoneSplits;
            copy(other.subjects, subjects);
            copy(other.weights, weights);
            copy(other.limits, limits);
            copy(other.points, points);
            copy(other.absences, absences);
            copy(other.sizes, sizes);
            copy(other.capacities, capacities);
            copy(other.slots, slots);
            copy(other.classes, classes);
            copy(other.topics, topics);
            copy(other.owners, owners);
            copy(other.rooms, rooms);
            copy(other.coverers, coverers);
            copy(other.firsts, firsts);
            copy(other.seconds, seconds);
        }

        // ---- teachers

        private int putTeacher(int subjectSet, int weight) {
            int teacher = teacherCount;
            put(subjects, teacher, subjectSet);
            put(weights, teacher, weight);
            put(limits, teacher, FIRST_LIMIT);
            put(points, teacher, 0);
            put(absences, teacher, 0);
            teacherCount++;
            return teacher;
        }

        private boolean isAbsentIn(int teacher, int slot) {
            return (at(absences, teacher) >> slot & 1) != 0;
        }

        private int absentPeriods(int teacher, int day) {
            return at(absences, teacher) >> day * PERIODS & (1 << PERIODS) - 1;
        }

        private boolean isFreeIn(int teacher, int slot) {
            return !isAbsentIn(teacher, slot)
                    && lessonIn(slot, owners, teacher) == NONE
                    && lessonIn(slot, coverers, teacher) == NONE;
        }

        private int freePeriods(int teacher, int day) {
            int periods = 0;
            for (int period = 0; period < PERIODS; period++) {
                if (isFreeIn(teacher, day * PERIODS + period)) {
                    periods |= 1 << period;
                }
            }
            return periods;
        }

        private boolean hasSubject(int teacher, int subject) {
            return (at(subjects, teacher) >> subject & 1) != 0;
        }

        private int ownLessons(int teacher) {
            int number = 0;
            for (int lesson = 0; lesson < lessonCount; lesson++) {
                if (at(owners, lesson) == teacher) {
                    number++;
                }
            }
            return number;
        }

        private int untaughtLessons(int teacher) {
            int number = 0;
            for (int lesson = 0; lesson < lessonCount; lesson++) {
                if (at(owners, lesson) == teacher && stateOf(lesson) != TAUGHT) {
                    number++;
                }
            }
            return number;
        }

        private int coversOf(int teacher) {
            int number = 0;
            for (int day = 0; day < DAYS; day++) {
                number += coversOn(teacher, day);
            }
            return number;
        }

        private int coversOn(int teacher, int day) {
            int number = 0;
            for (int lesson = 0; lesson < lessonCount; lesson++) {
                if (at(coverers, lesson) == teacher && dayOf(lesson) == day) {
                    number++;
                }
            }
            return number;
        }

        // ---- points and shares

        private void addPoints(int teacher, int number) {
            put(points, teacher, at(points, teacher) + number);
        }

        private int shareFor(int teacher, int somePoints) {
            int weight = at(weights, teacher);
            return weight < 1 ? 0 : SHARE_UNIT * somePoints / weight;
        }

        private int shareOf(int teacher) {
            return shareFor(teacher, at(points, teacher));
        }

        private int extremeTeacher(boolean isGreatest) {
            int found = 0;
            for (int teacher = 1; teacher < teacherCount; teacher++) {
                int more = shareOf(teacher) - shareOf(found);
                if (isGreatest ? more > 0 : more < 0) {
                    found = teacher;
                }
            }
            return found;
        }

        private int pointsOfAll(int teachers) {
            int sum = 0;
            for (int teacher = 0; teacher < teacherCount; teacher++) {
                if ((teachers >> teacher & 1) != 0) {
                    sum += at(points, teacher);
                }
            }
            return sum;
        }

        private int pointsFor(int lesson, int teacher) {
            int period = at(slots, lesson) % PERIODS;
            int number = period < 3 ? 2 : period < 5 ? 3 : 4;
            return hasSubject(teacher, at(topics, lesson)) ? number : number + 2;
        }

        private int pointsFoundAnew(int teacher) {
            int sum = 0;
            for (int lesson = 0; lesson < lessonCount; lesson++) {
                int state = stateOf(lesson);
                if (state == COVERED && at(coverers, lesson) == teacher) {
                    sum += pointsFor(lesson, teacher);
                }
                if (state == SPLIT) {
                    sum += actingOf(at(firsts, lesson)) == teacher ? 1 : 0;
                    sum += actingOf(at(seconds, lesson)) == teacher ? 1 : 0;
                }
            }
            return sum;
        }

        // ---- lessons

        private int faultOfLesson(int slot, int number, int subject, int teacher, int room) {
            if (!isWithin(slot, 0, SLOTS - 1) || !isWithin(number, 0, CLASSES - 1)
                    || !isWithin(subject, 0, SUBJECTS - 1) || !isWithin(teacher, 0, teacherCount - 1)
                    || !isWithin(room, 0, ROOMS - 1)) {
                return OUT_OF_RANGE;
            }
            if (lessonIn(slot, classes, number) != NONE || lessonIn(slot, owners, teacher) != NONE
                    || lessonIn(slot, rooms, room) != NONE || lessonIn(slot, coverers, teacher) != NONE
                    || at(sizes, number) > at(capacities, room)) {
                return COLLIDES;
            }
            return lessonCount >= MOST_LESSONS ? NO_PLACE : FITS;
        }

        private int putLesson(int slot, int number, int subject, int teacher, int room) {
            int lesson = lessonCount;
            put(slots, lesson, slot);
            put(classes, lesson, number);
            put(topics, lesson, subject);
            put(owners, lesson, teacher);
            put(rooms, lesson, room);
            put(coverers, lesson, NONE);
            put(firsts, lesson, NONE);
            put(seconds, lesson, NONE);
            lessonCount++;
            return lesson;
        }

        private void dropLesson(int lesson) {
            endAllWith(lesson);
            dropFrom(slots, lesson);
            dropFrom(classes, lesson);
            dropFrom(topics, lesson);
            dropFrom(owners, lesson);
            dropFrom(rooms, lesson);
            dropFrom(coverers, lesson);
            dropFrom(firsts, lesson);
            dropFrom(seconds, lesson);
            lessonCount--;
            moveHosts(firsts, lesson);
            moveHosts(seconds, lesson);
        }

        private void moveHosts(int[] hosts, int dropped) {
            for (int lesson = 0; lesson < lessonCount; lesson++) {
                if (at(hosts, lesson) > dropped) {
                    put(hosts, lesson, at(hosts, lesson) - 1);
                }
            }
        }

        /** The lesson of the slot that has this number in the row, or NONE. */
        private int lessonIn(int slot, int[] row, int number) {
            for (int lesson = 0; lesson < lessonCount; lesson++) {
                if (at(slots, lesson) == slot && at(row, lesson) == number) {
                    return lesson;
                }
            }
            return NONE;
        }

        private int dayOf(int lesson) {
            return at(slots, lesson) / PERIODS;
        }

        private int actingOf(int lesson) {
            int owner = at(owners, lesson);
            boolean isTaught = (at(absences, owner) >> at(slots, lesson) & 1) == 0;
            return isTaught ? owner : at(coverers, lesson);
        }

        private int stateOf(int lesson) {
            int acting = actingOf(lesson);
            if (acting != NONE) {
                return acting == at(owners, lesson) ? TAUGHT : COVERED;
            }
            return at(firsts, lesson) != NONE ? SPLIT : OPEN;
        }

        private int lessonsIn(int state) {
            int number = 0;
            for (int lesson = 0; lesson < lessonCount; lesson++) {
                if (stateOf(lesson) == state) {
                    number++;
                }
            }
            return number;
        }

        private int lostLessons(int number) {
            int lost = 0;
            for (int lesson = 0; lesson < lessonCount; lesson++) {
                int state = stateOf(lesson);
                if (at(classes, lesson) == number && (state == OPEN || state == SPLIT)) {
                    lost++;
                }
            }
            return lost;
        }

        private int openCount(int day) {
            int number = 0;
            for (int lesson = 0; lesson < lessonCount; lesson++) {
                if (dayOf(lesson) == day && stateOf(lesson) == OPEN) {
                    number++;
                }
            }
            return number;
        }

        private int openAt(int day, int index) {
            int before = 0;
            for (int period = 0; period < PERIODS; period++) {
                for (int lesson = 0; lesson < lessonCount; lesson++) {
                    if (isOpenIn(lesson, day * PERIODS + period)) {
                        if (before == index) {
                            return lesson;
                        }
                        before++;
                    }
                }
            }
            return NONE;
        }

        private boolean isOpenIn(int lesson, int slot) {
            return at(slots, lesson) == slot && stateOf(lesson) == OPEN;
        }

        private boolean areTogether(int lesson, int other) {
            return at(slots, lesson) == at(slots, other);
        }

        // ---- sizes, rooms and loads

        private int sizeOf(int lesson) {
            return at(sizes, at(classes, lesson));
        }

        private int capacityOf(int lesson) {
            return at(capacities, at(rooms, lesson));
        }

        private int firstPart(int lesson) {
            return (sizeOf(lesson) + 1) / 2;
        }

        private int secondPart(int lesson) {
            return sizeOf(lesson) / 2;
        }

        private int guestsOf(int host) {
            int guests = 0;
            for (int lesson = 0; lesson < lessonCount; lesson++) {
                if (at(firsts, lesson) == host) {
                    guests += firstPart(lesson);
                }
                if (at(seconds, lesson) == host) {
                    guests += secondPart(lesson);
                }
            }
            return guests;
        }

        private int loadOf(int lesson) {
            return sizeOf(lesson) + guestsOf(lesson);
        }

        private boolean canHost(int lesson, int part) {
            return actingOf(lesson) != NONE && loadOf(lesson) + part <= capacityOf(lesson);
        }

        private boolean allowsSize(int number, int size) {
            for (int lesson = 0; lesson < lessonCount; lesson++) {
                if (at(classes, lesson) == number
                        && (stateOf(lesson) == SPLIT || size + guestsOf(lesson) > capacityOf(lesson))) {
                    return false;
                }
            }
            return true;
        }

        private boolean allowsCapacity(int room, int capacity) {
            for (int lesson = 0; lesson < lessonCount; lesson++) {
                if (at(rooms, lesson) == room && loadOf(lesson) > capacity) {
                    return false;
                }
            }
            return true;
        }

        private boolean allowsRoom(int lesson, int room) {
            int holder = lessonIn(at(slots, lesson), rooms, room);
            return (holder == NONE || holder == lesson) && loadOf(lesson) <= at(capacities, room);
        }

        private int roomsFreeIn(int slot) {
            int free = 0;
            for (int room = 0; room < ROOMS; room++) {
                if (lessonIn(slot, rooms, room) == NONE) {
                    free |= 1 << room;
                }
            }
            return free;
        }

        // ---- covers

        private int reasonAgainst(int lesson, int teacher) {
            int slot = at(slots, lesson);
            if (at(owners, lesson) == teacher) {
                return OWN_LESSON;
            }
            if (isAbsentIn(teacher, slot)) {
                return IS_ABSENT;
            }
            if (lessonIn(slot, owners, teacher) != NONE) {
                return HAS_LESSON;
            }
            if (lessonIn(slot, coverers, teacher) != NONE) {
                return HAS_COVER;
            }
            return coversOn(teacher, dayOf(lesson)) >= at(limits, teacher) ? AT_LIMIT : 0;
        }

        private int bestFor(int lesson) {
            int best = NONE;
            for (int teacher = 0; teacher < teacherCount; teacher++) {
                if (reasonAgainst(lesson, teacher) == 0
                        && (best == NONE || isBetterFor(lesson, teacher, best))) {
                    best = teacher;
                }
            }
            return best;
        }

        private boolean isBetterFor(int lesson, int teacher, int other) {
            boolean has = hasSubject(teacher, at(topics, lesson));
            if (has != hasSubject(other, at(topics, lesson))) {
                return has;
            }
            return shareWith(lesson, teacher) < shareWith(lesson, other);
        }

        private int shareWith(int lesson, int teacher) {
            return shareFor(teacher, at(points, teacher) + pointsFor(lesson, teacher));
        }

        private void beginCover(int lesson, int teacher) {
            put(coverers, lesson, teacher);
            addPoints(teacher, pointsFor(lesson, teacher));
        }

        /** Ends the cover of a lesson, if there is one; tells how many covers that is. */
        private int endCover(int lesson) {
            int teacher = at(coverers, lesson);
            if (teacher == NONE) {
                return 0;
            }
            addPoints(teacher, -pointsFor(lesson, teacher));
            put(coverers, lesson, NONE);
            return 1;
        }

        private int coverOpenLessons(int day) {
            int begun = 0;
            for (int period = 0; period < PERIODS; period++) {
                for (int lesson = 0; lesson < lessonCount; lesson++) {
                    int teacher = isOpenIn(lesson, day * PERIODS + period) ? bestFor(lesson) : NONE;
                    if (teacher != NONE) {
                        beginCover(lesson, teacher);
                        begun++;
                    }
                }
            }
            return begun;
        }

        // ---- splittings, and what ends

        private void beginSplit(int lesson, int first, int second) {
            put(firsts, lesson, first);
            put(seconds, lesson, second);
            addPoints(actingOf(first), 1);
            addPoints(actingOf(second), 1);
        }

        // The acting teachers of the hosts must still be those who got the points.
        private void endSplit(int lesson) {
            addPoints(actingOf(at(firsts, lesson)), -1);
            addPoints(actingOf(at(seconds, lesson)), -1);
            put(firsts, lesson, NONE);
            put(seconds, lesson, NONE);
        }

        /** Ends the splitting of a lesson and those that it hosts, and counts them as undone. */
        private int endSplitsWith(int lesson) {
            int ended = 0;
            for (int other = 0; other < lessonCount; other++) {
                if (isSplitWith(other, lesson)) {
                    endSplit(other);
                    ended++;
                }
            }
            undoneSplits += ended;
            return ended;
        }

        private boolean isSplitWith(int split, int lesson) {
            int first = at(firsts, split);
            return first != NONE && (split == lesson || first == lesson || at(seconds, split) == lesson);
        }

        // The splittings end first, while the acting teachers are those who got the points.
        private int endAllWith(int lesson) {
            int splits = endSplitsWith(lesson);
            int covers = endCover(lesson);
            undoneCovers += covers;
            return splits + covers;
        }

        // All ends come before the absence turns, for the same reason.
        private int turnAbsence(int teacher, int slot) {
            int ended = 0;
            int own = lessonIn(slot, owners, teacher);
            if (own != NONE) {
                ended += endAllWith(own);
            }
            int covered = lessonIn(slot, coverers, teacher);
            if (covered != NONE) {
                ended += endAllWith(covered);
            }
            put(absences, teacher, at(absences, teacher) ^ 1 << slot);
            return ended;
        }
    }

    /** The states before the last changes, in a ring of schools. */
    private static final class History {
        private final School[] past = new School[MOST_CHANGES];
        private int newest = 0;
        private int remembered = 0;

        private History() {
            for (int k = 0; k < past.length; k++) {
                past[k] = new School();
            }
        }

        private void forget() {
            remembered = 0;
        }

        private void remember(School before) {
            newest = newest + 1 < MOST_CHANGES ? newest + 1 : 0;
            School place = newestPast();
            if (place != null) {
                place.copyFrom(before);
            }
            remembered = Math.min(remembered + 1, MOST_CHANGES);
        }

        private void goBack(School now) {
            School place = newestPast();
            if (place != null) {
                now.copyFrom(place);
            }
            newest = newest > 0 ? newest - 1 : MOST_CHANGES - 1;
            remembered--;
        }

        private School newestPast() {
            return newest >= 0 && newest < past.length ? past[newest] : null;
        }
    }

    /** Looks through all plans for a day: planCount of them, and the best one of these if there is one. */
    private static final class Planner {
        private final int[] lessons = new int[MOST_PLANNED];
        private final int[] slots = new int[MOST_PLANNED];
        private final int[] able = new int[MOST_PLANNED];
        private final int[] chosen = new int[MOST_PLANNED];
        private final int[] best = new int[MOST_PLANNED];
        private final int[] shares = new int[MOST_TEACHERS];
        private final int[] coversLeft = new int[MOST_TEACHERS];
        private final int[] costs = new int[MOST_PLANNED * MOST_TEACHERS];
        private int teacherCount = 0;
        private int lessonCount = 0;
        private int planCount = 0;
        private int bestSpread = 0;

        private void findPlans(School school, int day) {
            teacherCount = school.teacherCount;
            lessonCount = Math.min(school.openCount(day), MOST_PLANNED);
            planCount = 0;
            bestSpread = 0;
            for (int teacher = 0; teacher < teacherCount; teacher++) {
                put(shares, teacher, school.shareOf(teacher));
                put(coversLeft, teacher, at(school.limits, teacher) - school.coversOn(teacher, day));
            }
            for (int k = 0; k < lessonCount; k++) {
                takeLesson(school, k, school.openAt(day, k));
            }
            extend(this, 0);
        }

        private void takeLesson(School school, int k, int lesson) {
            int ableTeachers = 0;
            for (int teacher = 0; teacher < teacherCount; teacher++) {
                if (school.reasonAgainst(lesson, teacher) == 0) {
                    ableTeachers |= 1 << teacher;
                }
                int cost = school.shareFor(teacher, school.pointsFor(lesson, teacher));
                put(costs, k * MOST_TEACHERS + teacher, cost);
            }
            put(able, k, ableTeachers);
            put(lessons, k, lesson);
            put(slots, k, at(school.slots, lesson));
        }

        // Teachers are tried in ascending order, so that the plans come in lexicographic order.
        private static void extend(Planner planner, int depth) {
            if (depth >= planner.lessonCount || depth >= MOST_PLANNED) {
                planner.judge();
                return;
            }
            for (int teacher = 0; teacher < planner.teacherCount; teacher++) {
                if (planner.canTake(depth, teacher)) {
                    planner.give(depth, teacher, 1);
                    extend(planner, depth + 1);
                    planner.give(depth, teacher, -1);
                }
            }
        }

        private boolean canTake(int depth, int teacher) {
            if ((at(able, depth) >> teacher & 1) == 0 || at(coversLeft, teacher) <= 0) {
                return false;
            }
            for (int k = 0; k < depth; k++) {
                if (at(chosen, k) == teacher && at(slots, k) == at(slots, depth)) {
                    return false;
                }
            }
            return true;
        }

        /** Gives a lesson to a teacher if sign is 1, and takes it back if sign is -1. */
        private void give(int depth, int teacher, int sign) {
            put(chosen, depth, teacher);
            put(coversLeft, teacher, at(coversLeft, teacher) - sign);
            put(shares, teacher, at(shares, teacher) + sign * at(costs, depth * MOST_TEACHERS + teacher));
        }

        // Of several plans with the least spread the first one stays.
        private void judge() {
            int found = spreadNow();
            if (planCount == 0 || found < bestSpread) {
                bestSpread = found;
                copy(chosen, best);
            }
            planCount++;
        }

        private int spreadNow() {
            int least = at(shares, 0);
            int greatest = least;
            for (int teacher = 1; teacher < teacherCount; teacher++) {
                least = Math.min(least, at(shares, teacher));
                greatest = Math.max(greatest, at(shares, teacher));
            }
            return greatest - least;
        }
    }

    /** The input, and the reading of it: the position stops at the first character that no text goes on with. */
    private static final class Input {
        private final char[] signs = new char[MOST_SIGNS];
        private int length = 0;
        private int position = 0;
        private char kind = ' ';
        private int subjects = 0;
        private int weight = 0;
        private int slot = 0;
        private int number = 0;
        private int subject = 0;
        private int teacher = 0;
        private int room = 0;

        private void add(char sign) {
            if (length >= 0 && length < signs.length) {
                signs[length] = sign;
                length++;
            }
        }

        /** The error position, or NONE if the input is a text. */
        private int firstError() {
            position = 0;
            for (int entry = 0; entry < MOST_SIGNS && position < length; entry++) {
                if (!takeEntry()) {
                    return position;
                }
            }
            return length == 0 ? 0 : NONE;
        }

        /** Does what the entries tell; the number of them, or NONE if one is refused. */
        private int tellTo(School school) {
            int entries = 0;
            position = 0;
            for (int entry = 0; entry < MOST_SIGNS && position < length; entry++) {
                if (!takeEntry() || isRefusedBy(school)) {
                    return NONE;
                }
                if (kind == 't') {
                    school.putTeacher(subjects, weight);
                } else if (kind == 'l') {
                    school.putLesson(slot, number, subject, teacher, room);
                } else {
                    school.turnAbsence(teacher, slot);
                }
                entries++;
            }
            return entries;
        }

        private boolean isRefusedBy(School school) {
            if (kind == 't') {
                return school.teacherCount >= MOST_TEACHERS;
            }
            if (kind == 'l') {
                return school.faultOfLesson(slot, number, subject, teacher, room) != FITS;
            }
            return teacher >= school.teacherCount || slot >= SLOTS || school.isAbsentIn(teacher, slot);
        }

        private boolean takeEntry() {
            kind = signAt(signs, position);
            if (takeSign('t')) {
                return takeTeacher() && takeSign(';');
            }
            if (takeSign('l')) {
                return takeLesson() && takeSign(';');
            }
            return takeSign('a') && takeAbsence() && takeSign(';');
        }

        private boolean takeTeacher() {
            subjects = 0;
            int digit = takeDigit(0, SUBJECTS - 1);
            for (int k = 0; k < SUBJECTS && digit != NONE; k++) {
                subjects |= 1 << digit;
                digit = takeDigit(digit + 1, SUBJECTS - 1);
            }
            if (subjects == 0 || !takeSign('*')) {
                return false;
            }
            weight = takeDigit(1, GREATEST_WEIGHT);
            return weight != NONE;
        }

        private boolean takeLesson() {
            slot = takeNumber();
            if (slot == NONE || !takeSign('c')) {
                return false;
            }
            number = takeDigit(0, CLASSES - 1);
            if (number == NONE || !takeSign('s')) {
                return false;
            }
            subject = takeDigit(0, SUBJECTS - 1);
            if (subject == NONE || !takeSign('p')) {
                return false;
            }
            teacher = takeDigit(0, MOST_TEACHERS - 1);
            if (teacher == NONE || !takeSign('r')) {
                return false;
            }
            room = takeDigit(0, ROOMS - 1);
            return room != NONE;
        }

        private boolean takeAbsence() {
            teacher = takeDigit(0, MOST_TEACHERS - 1);
            if (teacher == NONE || !takeSign('@')) {
                return false;
            }
            slot = takeNumber();
            return slot != NONE;
        }

        private int takeNumber() {
            int first = takeDigit(0, 9);
            if (first <= 0) {
                return first;
            }
            int second = takeDigit(0, 9);
            return second == NONE ? first : 10 * first + second;
        }

        private int takeDigit(int least, int greatest) {
            int digit = position < length ? signAt(signs, position) - '0' : NONE;
            if (!isWithin(digit, least, greatest)) {
                return NONE;
            }
            position++;
            return digit;
        }

        private boolean takeSign(char sign) {
            if (position >= length || signAt(signs, position) != sign) {
                return false;
            }
            position++;
            return true;
        }
    }

    /** The text of a lesson, written anew for each call that asks for it. */
    private static final class Line {
        private final char[] signs = new char[LONGEST_LINE];
        private int length = 0;

        private void writeLesson(School school, int lesson) {
            int slot = at(school.slots, lesson);
            length = 0;
            add('l');
            if (slot >= 10) {
                addDigit(slot / 10);
            }
            addDigit(slot % 10);
            add('c');
            addDigit(at(school.classes, lesson));
            add('s');
            addDigit(at(school.topics, lesson));
            add('p');
            addDigit(at(school.owners, lesson));
            add('r');
            addDigit(at(school.rooms, lesson));
            add(';');
        }

        private void addDigit(int digit) {
            add((char) ('0' + digit));
        }

        private void add(char sign) {
            if (length >= 0 && length < signs.length) {
                signs[length] = sign;
                length++;
            }
        }
    }
}
