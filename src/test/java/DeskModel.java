import java.util.ArrayDeque;
import java.util.ArrayList;
import java.util.Deque;
import java.util.HashMap;
import java.util.HashSet;
import java.util.List;
import java.util.Map;
import java.util.NoSuchElementException;
import java.util.Set;
import java.util.regex.Matcher;
import java.util.regex.Pattern;

/**
 * A second desk, for the tests alone, written from the document in another way: lessons point to teachers and hosts,
 * points are what the present covers and splittings give, what ends is found by looking at who acted before and who
 * acts now, and plans are tried out one by one.
 */
public final class DeskModel {
    private static final class Teacher {
        int subjects;
        int weight;
        int limit = 2;
        final Set<Integer> absent = new HashSet<>();

        boolean has(int subject) {
            return (subjects >> subject) % 2 == 1;
        }
    }

    private static final class Lesson {
        int slot;
        int number;
        int subject;
        int room;
        Teacher owner;
        Teacher covering;
        Lesson first;
        Lesson second;

        boolean isTaught() {
            return !owner.absent.contains(slot);
        }

        Teacher acting() {
            return isTaught() ? owner : covering;
        }

        int state() {
            return isTaught() ? 0 : covering != null ? 1 : first != null ? 2 : 3;
        }

        int points(Teacher teacher) {
            int[] byPeriod = {2, 2, 2, 3, 3, 4};
            return byPeriod[slot % 6] + (teacher.has(subject) ? 0 : 2);
        }

        void open() {
            covering = null;
            first = null;
            second = null;
        }
    }

    private static final class State {
        final List<Teacher> teachers = new ArrayList<>();
        final List<Lesson> lessons = new ArrayList<>();
        final int[] sizes = {20, 20, 20, 20, 20, 20};
        final int[] capacities = {30, 30, 30, 30, 30, 30};
        int undoneCovers;
        int undoneSplits;

        State copy() {
            State copy = new State();
            Map<Teacher, Teacher> newTeachers = new HashMap<>();
            Map<Lesson, Lesson> newLessons = new HashMap<>();
            for (Teacher t : teachers) {
                Teacher u = new Teacher();
                u.subjects = t.subjects;
                u.weight = t.weight;
                u.limit = t.limit;
                u.absent.addAll(t.absent);
                newTeachers.put(t, u);
                copy.teachers.add(u);
            }
            for (Lesson l : lessons) {
                Lesson m = new Lesson();
                m.slot = l.slot;
                m.number = l.number;
                m.subject = l.subject;
                m.room = l.room;
                m.owner = newTeachers.get(l.owner);
                m.covering = newTeachers.get(l.covering);
                newLessons.put(l, m);
                copy.lessons.add(m);
            }
            for (Lesson l : lessons) {
                newLessons.get(l).first = newLessons.get(l.first);
                newLessons.get(l).second = newLessons.get(l.second);
            }
            System.arraycopy(sizes, 0, copy.sizes, 0, 6);
            System.arraycopy(capacities, 0, copy.capacities, 0, 6);
            copy.undoneCovers = undoneCovers;
            copy.undoneSplits = undoneSplits;
            return copy;
        }

        int points(Teacher teacher) {
            int sum = 0;
            for (Lesson l : lessons) {
                if (l.covering == teacher) {
                    sum += l.points(teacher);
                }
                if (l.first != null && l.first.acting() == teacher) {
                    sum++;
                }
                if (l.second != null && l.second.acting() == teacher) {
                    sum++;
                }
            }
            return sum;
        }

        int share(Teacher teacher) {
            return 12 * points(teacher) / teacher.weight;
        }

        int spread() {
            int least = Integer.MAX_VALUE;
            int greatest = Integer.MIN_VALUE;
            for (Teacher t : teachers) {
                least = Math.min(least, share(t));
                greatest = Math.max(greatest, share(t));
            }
            return greatest - least;
        }

        int load(Lesson lesson) {
            int load = sizes[lesson.number];
            for (Lesson l : lessons) {
                int size = sizes[l.number];
                int second = size / 2;
                if (l.first == lesson) {
                    load += size - second;
                }
                if (l.second == lesson) {
                    load += second;
                }
            }
            return load;
        }

        boolean isOverloaded() {
            for (Lesson l : lessons) {
                if (load(l) > capacities[l.room]) {
                    return true;
                }
            }
            return false;
        }

        int covers(Teacher teacher, int day) {
            int covers = 0;
            for (Lesson l : lessons) {
                if (l.covering == teacher && (day < 0 || l.slot / 6 == day)) {
                    covers++;
                }
            }
            return covers;
        }

        boolean hasOwn(Teacher teacher, int slot) {
            return lessons.stream().anyMatch(l -> l.slot == slot && l.owner == teacher);
        }

        boolean hasCover(Teacher teacher, int slot) {
            return lessons.stream().anyMatch(l -> l.slot == slot && l.covering == teacher);
        }

        int why(Lesson lesson, Teacher teacher) {
            boolean[] reasons = {
                lesson.owner == teacher,
                teacher.absent.contains(lesson.slot),
                hasOwn(teacher, lesson.slot),
                hasCover(teacher, lesson.slot),
                covers(teacher, lesson.slot / 6) >= teacher.limit,
            };
            for (int k = 0; k < 5; k++) {
                if (reasons[k]) {
                    return k + 1;
                }
            }
            return 0;
        }

        List<Lesson> open(int day) {
            List<Lesson> open = new ArrayList<>();
            for (Lesson l : lessons) {
                if (l.slot / 6 == day && l.state() == 3) {
                    open.add(l);
                }
            }
            open.sort((a, b) -> a.slot - b.slot);
            return open;
        }

        Teacher suggestion(Lesson lesson) {
            List<Teacher> able = new ArrayList<>();
            for (Teacher t : teachers) {
                if (why(lesson, t) == 0) {
                    able.add(t);
                }
            }
            if (able.stream().anyMatch(t -> t.has(lesson.subject))) {
                able.removeIf(t -> !t.has(lesson.subject));
            }
            able.sort((a, b) -> shareWith(lesson, a) - shareWith(lesson, b));
            return able.isEmpty() ? null : able.get(0);
        }

        int shareWith(Lesson lesson, Teacher teacher) {
            return 12 * (points(teacher) + lesson.points(teacher)) / teacher.weight;
        }

        /** Lets happen what must end after something else has changed who acts. */
        int settle(Map<Lesson, Teacher> actedBefore, Lesson removed) {
            int covers = 0;
            int splits = 0;
            for (Lesson l : actedBefore.keySet()) {
                boolean mayNotCover = l.covering != null && l.covering.absent.contains(l.slot);
                boolean isBack = l.isTaught() || l == removed;
                if (l.covering != null && (mayNotCover || isBack)) {
                    l.covering = null;
                    covers++;
                }
                if (l.first != null && isBack) {
                    l.open();
                    splits++;
                }
            }
            for (Lesson l : actedBefore.keySet()) {
                for (Lesson host : new Lesson[] {l.first, l.second}) {
                    if (host != null && (host == removed || host.acting() != actedBefore.get(host))) {
                        l.open();
                        splits++;
                        break;
                    }
                }
            }
            undoneCovers += covers;
            undoneSplits += splits;
            return covers + splits;
        }

        Map<Lesson, Teacher> acting() {
            Map<Lesson, Teacher> acting = new HashMap<>();
            for (Lesson l : lessons) {
                acting.put(l, l.acting());
            }
            return acting;
        }
    }

    private State now = new State();
    private State saved = null;
    private final Deque<State> past = new ArrayDeque<>();
    private String input = "";
    private int reason = 0;
    private int errorAt = -1;

    private void change() {
        past.push(now.copy());
        if (past.size() > 8) {
            past.removeLast();
        }
    }

    private static void index(boolean isRight) {
        if (!isRight) {
            throw new IndexOutOfBoundsException();
        }
    }

    private static void argument(boolean isRight) {
        if (!isRight) {
            throw new IllegalArgumentException();
        }
    }

    private static void state(boolean isRight) {
        if (!isRight) {
            throw new IllegalStateException();
        }
    }

    private static void supported(boolean isRight) {
        if (!isRight) {
            throw new UnsupportedOperationException();
        }
    }

    private static void element(boolean isThere) {
        if (!isThere) {
            throw new NoSuchElementException();
        }
    }

    private static boolean in(int number, int least, int greatest) {
        return number >= least && number <= greatest;
    }

    private Teacher teacherAt(int number) {
        index(in(number, 0, now.teachers.size() - 1));
        return now.teachers.get(number);
    }

    private Lesson lessonAt(int number) {
        index(in(number, 0, now.lessons.size() - 1));
        return now.lessons.get(number);
    }

    public int clear() {
        int lessons = now.lessons.size();
        now = new State();
        past.clear();
        return lessons;
    }

    public int addTeacher(int subjects, int weight) {
        argument(in(subjects, 1, 63) && in(weight, 1, 4));
        state(now.teachers.size() < 8);
        change();
        Teacher teacher = new Teacher();
        teacher.subjects = subjects;
        teacher.weight = weight;
        now.teachers.add(teacher);
        return now.teachers.size() - 1;
    }

    public int setLimit(int teacher, int limit) {
        Teacher t = teacherAt(teacher);
        argument(in(limit, 0, 3));
        change();
        int previous = t.limit;
        t.limit = limit;
        return previous;
    }

    public int setSize(int number, int size) {
        index(in(number, 0, 5));
        argument(in(size, 1, 30));
        for (Lesson l : now.lessons) {
            state(l.number != number || l.state() != 2);
        }
        State after = now.copy();
        after.sizes[number] = size;
        state(!after.isOverloaded());
        change();
        int previous = now.sizes[number];
        now.sizes[number] = size;
        return previous;
    }

    public int setCapacity(int room, int capacity) {
        index(in(room, 0, 5));
        argument(in(capacity, 10, 60));
        State after = now.copy();
        after.capacities[room] = capacity;
        state(!after.isOverloaded());
        change();
        int previous = now.capacities[room];
        now.capacities[room] = capacity;
        return previous;
    }

    public int addLesson(int slot, int number, int subject, int teacher, int room) {
        argument(in(slot, 0, 29) && in(number, 0, 5) && in(subject, 0, 5) && in(room, 0, 5)
                && in(teacher, 0, now.teachers.size() - 1));
        Teacher owner = now.teachers.get(teacher);
        for (Lesson l : now.lessons) {
            supported(l.slot != slot
                    || l.number != number && l.owner != owner && l.room != room && l.covering != owner);
        }
        supported(now.sizes[number] <= now.capacities[room]);
        state(now.lessons.size() < 40);
        change();
        Lesson lesson = new Lesson();
        lesson.slot = slot;
        lesson.number = number;
        lesson.subject = subject;
        lesson.owner = owner;
        lesson.room = room;
        now.lessons.add(lesson);
        return now.lessons.size() - 1;
    }

    public int removeLesson(int lesson) {
        Lesson l = lessonAt(lesson);
        change();
        now.settle(now.acting(), l);
        now.lessons.remove(l);
        return now.lessons.size();
    }

    public int setRoom(int lesson, int room) {
        Lesson l = lessonAt(lesson);
        argument(in(room, 0, 5));
        for (Lesson other : now.lessons) {
            state(other == l || other.slot != l.slot || other.room != room);
        }
        state(now.load(l) <= now.capacities[room]);
        change();
        int previous = l.room;
        l.room = room;
        return previous;
    }

    public int count(int what) {
        argument(in(what, 0, 7));
        int[] states = new int[4];
        for (Lesson l : now.lessons) {
            states[l.state()]++;
        }
        int[] counts = {now.teachers.size(), now.lessons.size(), states[0], states[1], states[2], states[3],
            now.undoneCovers, now.undoneSplits};
        return counts[what];
    }

    public int lesson(int lesson, int what) {
        Lesson l = lessonAt(lesson);
        argument(in(what, 0, 7));
        int[] numbers = {l.slot, l.number, l.subject, now.teachers.indexOf(l.owner), l.room, l.state(),
            now.teachers.indexOf(l.acting()), now.load(l)};
        return numbers[what];
    }

    public int teacher(int teacher, int what) {
        Teacher t = teacherAt(teacher);
        argument(in(what, 0, 7));
        int own = (int) now.lessons.stream().filter(l -> l.owner == t).count();
        int taught = (int) now.lessons.stream().filter(l -> l.owner == t && l.state() == 0).count();
        int[] numbers = {t.subjects, t.weight, t.limit, now.points(t), now.share(t), own, now.covers(t, -1),
            own - taught};
        return numbers[what];
    }

    public int lessonOf(int slot, int number) {
        index(in(slot, 0, 29) && in(number, 0, 5));
        for (int k = 0; k < now.lessons.size(); k++) {
            if (now.lessons.get(k).slot == slot && now.lessons.get(k).number == number) {
                return k;
            }
        }
        throw new NoSuchElementException();
    }

    public int setAbsent(int teacher, int slot, boolean isAbsent) {
        Teacher t = teacherAt(teacher);
        index(in(slot, 0, 29));
        state(t.absent.contains(slot) != isAbsent);
        change();
        Map<Lesson, Teacher> acted = now.acting();
        if (isAbsent) {
            t.absent.add(slot);
        } else {
            t.absent.remove(slot);
        }
        return now.settle(acted, null);
    }

    public int absent(int teacher, int day) {
        Teacher t = teacherAt(teacher);
        index(in(day, 0, 4));
        return t.absent.stream().filter(s -> s / 6 == day).mapToInt(s -> 1 << s % 6).sum();
    }

    public int free(int teacher, int day) {
        Teacher t = teacherAt(teacher);
        index(in(day, 0, 4));
        int free = 0;
        for (int slot = 6 * day; slot < 6 * day + 6; slot++) {
            if (!t.absent.contains(slot) && !now.hasOwn(t, slot) && !now.hasCover(t, slot)) {
                free += 1 << slot % 6;
            }
        }
        return free;
    }

    public int freeRooms(int slot) {
        index(in(slot, 0, 29));
        int free = 63;
        for (Lesson l : now.lessons) {
            free -= l.slot == slot ? 1 << l.room : 0;
        }
        return free;
    }

    public int openOn(int day) {
        index(in(day, 0, 4));
        return now.open(day).size();
    }

    public int open(int day, int index) {
        index(in(day, 0, 4));
        List<Lesson> open = now.open(day);
        element(in(index, 0, open.size() - 1));
        return now.lessons.indexOf(open.get(index));
    }

    public int why(int lesson, int teacher) {
        Lesson l = lessonAt(lesson);
        Teacher t = teacherAt(teacher);
        state(l.state() == 3);
        return now.why(l, t);
    }

    public int points(int lesson, int teacher) {
        return lessonAt(lesson).points(teacherAt(teacher));
    }

    public int suggestion(int lesson) {
        Lesson l = lessonAt(lesson);
        state(l.state() == 3);
        Teacher suggested = now.suggestion(l);
        element(suggested != null);
        return now.teachers.indexOf(suggested);
    }

    public int cover(int lesson, int teacher) {
        Lesson l = lessonAt(lesson);
        Teacher t = teacherAt(teacher);
        state(l.state() == 3);
        int found = now.why(l, t);
        if (found != 0) {
            reason = found;
        }
        supported(found == 0);
        change();
        l.covering = t;
        return l.points(t);
    }

    public int uncover(int lesson) {
        Lesson l = lessonAt(lesson);
        state(l.state() == 1);
        change();
        Map<Lesson, Teacher> acted = now.acting();
        int teacher = now.teachers.indexOf(l.covering);
        l.covering = null;
        now.settle(acted, null);
        return teacher;
    }

    public int split(int lesson, int first, int second) {
        Lesson l = lessonAt(lesson);
        Lesson a = lessonAt(first);
        Lesson b = lessonAt(second);
        state(l.state() == 3);
        argument(a != b && a.slot == l.slot && b.slot == l.slot);
        supported(a.state() < 2 && b.state() < 2);
        l.first = a;
        l.second = b;
        boolean isTooMuch = now.isOverloaded();
        l.open();
        supported(!isTooMuch);
        change();
        l.first = a;
        l.second = b;
        return (int) Math.ceil(now.sizes[l.number] / 2.0);
    }

    public int unsplit(int lesson) {
        Lesson l = lessonAt(lesson);
        state(l.state() == 2);
        change();
        l.open();
        return now.sizes[l.number];
    }

    public int host(int lesson, boolean isSecond) {
        Lesson l = lessonAt(lesson);
        state(l.state() == 2);
        return now.lessons.indexOf(isSecond ? l.second : l.first);
    }

    public int refusal() {
        element(reason != 0);
        return reason;
    }

    public int coverDay(int day) {
        index(in(day, 0, 4));
        change();
        int covers = 0;
        for (Lesson l : now.open(day)) {
            l.covering = now.suggestion(l);
            covers += l.covering == null ? 0 : 1;
        }
        return covers;
    }

    public int spread() {
        element(!now.teachers.isEmpty());
        return now.spread();
    }

    public int extreme(boolean isGreatest) {
        element(!now.teachers.isEmpty());
        List<Teacher> order = new ArrayList<>(now.teachers);
        order.sort((a, b) -> isGreatest ? now.share(b) - now.share(a) : now.share(a) - now.share(b));
        return now.teachers.indexOf(order.get(0));
    }

    /** All plans of a day: each as its sequence of teachers with the spread then at its end. */
    private List<int[]> allPlans(int day) {
        index(in(day, 0, 4));
        List<Lesson> open = now.open(day);
        state(open.size() <= 4);
        List<int[]> plans = new ArrayList<>();
        int codes = (int) Math.pow(now.teachers.size(), open.size());
        for (int code = 0; code < codes; code++) {
            int[] plan = new int[open.size() + 1];
            int rest = code;
            for (int k = open.size() - 1; k >= 0; k--) {
                plan[k] = rest % now.teachers.size();
                rest /= now.teachers.size();
            }
            boolean isPlan = true;
            for (int k = 0; k < open.size() && isPlan; k++) {
                Teacher t = now.teachers.get(plan[k]);
                isPlan = now.why(open.get(k), t) == 0;
                open.get(k).covering = isPlan ? t : null;
            }
            if (isPlan) {
                plan[open.size()] = now.teachers.isEmpty() ? 0 : now.spread();
                plans.add(plan);
            }
            open.forEach(l -> l.covering = null);
        }
        return plans;
    }

    private int[] bestPlan(int day) {
        int[] best = null;
        for (int[] plan : allPlans(day)) {
            if (best == null || plan[plan.length - 1] < best[best.length - 1]) {
                best = plan;
            }
        }
        element(best != null);
        return best;
    }

    public int plannedSpread(int day) {
        int[] best = bestPlan(day);
        element(!now.teachers.isEmpty());
        return best[best.length - 1];
    }

    public int planned(int day, int index) {
        int[] best = bestPlan(day);
        element(in(index, 0, best.length - 2));
        return best[index];
    }

    public int carryOut(int day) {
        int[] best = bestPlan(day);
        element(!now.teachers.isEmpty());
        change();
        List<Lesson> open = now.open(day);
        for (int k = 0; k < open.size(); k++) {
            open.get(k).covering = now.teachers.get(best[k]);
        }
        return open.size();
    }

    public int plans(int day) {
        return allPlans(day).size();
    }

    public double averagePoints(int teachers) {
        double sum = 0;
        double number = 0;
        for (int k = 0; k < 32; k++) {
            if ((teachers & 1 << k) != 0) {
                argument(k < now.teachers.size());
                sum += now.points(now.teachers.get(k));
                number++;
            }
        }
        if (number == 0) {
            throw new ArithmeticException();
        }
        return sum / number;
    }

    public int audit() {
        return 0;
    }

    public int lost(int number) {
        index(in(number, 0, 5));
        return (int) now.lessons.stream().filter(l -> l.number == number && l.state() >= 2).count();
    }

    public int append(char character) {
        argument(character >= 32 && character <= 126);
        state(input.length() < 70);
        input += character;
        return input.length();
    }

    private static final String NUMBER = "(0|[1-9][0-9]?)";
    private static final Pattern ENTRY = Pattern.compile("t(0?1?2?3?4?5?)(?<=[0-5])\\*([1-4]);"
            + "|l" + NUMBER + "c([0-5])s([0-5])p([0-7])r([0-5]);|a([0-7])@" + NUMBER + ";");

    /** Ends of texts, of which one fits each beginning of an entry that can go on. */
    private static final String[] ENDS = {"", ";", "1;", "*1;", "0*1;", "0;", "r0;", "0r0;", "p0r0;", "0p0r0;",
        "s0p0r0;", "0s0p0r0;", "c0s0p0r0;", "0c0s0p0r0;", "@0;", "0@0;"};

    private static boolean isText(String text) {
        return text.matches("(" + ENTRY.pattern() + ")+");
    }

    private static boolean canGoOn(String text) {
        for (String end : ENDS) {
            if (isText(text + end)) {
                return true;
            }
        }
        return false;
    }

    public int read() {
        String text = input;
        input = "";
        if (!isText(text)) {
            errorAt = 0;
            while (errorAt < text.length() && canGoOn(text.substring(0, errorAt + 1))) {
                errorAt++;
            }
            throw new IllegalArgumentException();
        }
        State before = now.copy();
        List<State> pastBefore = new ArrayList<>(past);
        int entries = 0;
        boolean isRefused = false;
        try {
            Matcher matcher = ENTRY.matcher(text);
            while (matcher.find()) {
                tell(matcher);
                entries++;
            }
        } catch (RuntimeException e) {
            isRefused = true;
        }
        past.clear();
        pastBefore.forEach(past::addLast);
        if (isRefused) {
            now = before;
        }
        state(!isRefused);
        State after = now;
        now = before;
        change();
        now = after;
        return entries;
    }

    private void tell(Matcher entry) {
        if (entry.group(1) != null) {
            int subjects = 0;
            for (char digit : entry.group(1).toCharArray()) {
                subjects |= 1 << digit - '0';
            }
            addTeacher(subjects, Integer.parseInt(entry.group(2)));
        } else if (entry.group(3) != null) {
            int[] five = new int[5];
            for (int k = 0; k < 5; k++) {
                five[k] = Integer.parseInt(entry.group(3 + k));
            }
            addLesson(five[0], five[1], five[2], five[3], five[4]);
        } else {
            setAbsent(Integer.parseInt(entry.group(8)), Integer.parseInt(entry.group(9)), true);
        }
    }

    public int errorPosition() {
        element(errorAt >= 0);
        return errorAt;
    }

    public int describe(int lesson, int index) {
        Lesson l = lessonAt(lesson);
        String text = String.format("l%dc%ds%dp%dr%d;", l.slot, l.number, l.subject,
                now.teachers.indexOf(l.owner), l.room);
        if (index == -1) {
            return text.length();
        }
        element(in(index, 0, text.length() - 1));
        return text.charAt(index);
    }

    public int undo() {
        element(!past.isEmpty());
        now = past.pop();
        return past.size();
    }

    public int save() {
        saved = now.copy();
        return now.lessons.size();
    }

    public int restore() {
        state(saved != null);
        now = saved.copy();
        past.clear();
        return now.lessons.size();
    }
}
