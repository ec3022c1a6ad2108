import java.io.IOException;
import java.util.Arrays;
import java.util.HashMap;
import java.util.List;
import java.util.Map;

/** What the tests of single sentences share: the sentence at hand, desks, and calls that must leave no trace. */
abstract class Bounds extends Check {
    /** How a desk is made; two desks made so are alike. */
    interface Recipe {
        SubstituteDesk desk();
    }

    interface Act {
        double on(SubstituteDesk desk);
    }

    interface NumberAct {
        double on(SubstituteDesk desk, int number);
    }

    static final Recipe BARE = SubstituteDesk::new;
    static final Recipe RICH_WITHOUT_INPUT = Bounds::richWithoutInput;
    static final Recipe RICH = Bounds::rich;
    static final Recipe FULL = Bounds::full;
    static final Recipe CROWDED = Bounds::crowded;

    private static final Map<Recipe, Map<Looks, String>> SEEN = new HashMap<>();
    private static final Sentences SENTENCES = readSentences();
    private static Sentences.Sentence atHand = null;
    private static int answersBefore = 0;

    private static Sentences readSentences() {
        try {
            return new Sentences();
        } catch (IOException e) {
            throw new AssertionError("the document cannot be read", e);
        }
    }

    // ---- sentences

    /** The next answers are checked for the sentence of this promise, 0 for the description, that starts so. */
    static void about(int promise, String start) {
        countAnswers();
        atHand = SENTENCES.find(promise, start);
        say(atHand.toString());
    }

    private static void countAnswers() {
        if (atHand != null) {
            atHand.answers += answersChecked() - answersBefore;
        }
        answersBefore = answersChecked();
    }

    static void everySentenceIsChecked() {
        countAnswers();
        say("");
        List<Sentences.Sentence> left = SENTENCES.withoutAnswers();
        for (Sentences.Sentence sentence : left) {
            System.out.println("no answer checked for " + sentence);
        }
        judge("0", String.valueOf(left.size()));
        judge("true", String.valueOf(SENTENCES.size() > 250));
    }

    // ---- calls that leave no trace

    /** The call is refused so, and behind it every look at the desk shows what it shows without the call. */
    static void untouched(Class<? extends RuntimeException> want, Recipe recipe, Act act, Looks... except) {
        leavesAlike(want.getName(), recipe, recipe, act, except);
    }

    /** The call answers so, and behind it every look at the desk shows what it shows without the call. */
    static void onlyAnswers(double want, Recipe recipe, Act act) {
        leavesAlike(String.valueOf(want), recipe, recipe, act);
    }

    /** The call on a desk made by the first recipe leaves it as the second recipe makes one. */
    static void leavesAlike(String want, Recipe recipe, Recipe due, Act act, Looks... except) {
        for (Looks look : Looks.values()) {
            if (!Arrays.asList(except).contains(look)) {
                SubstituteDesk desk = recipe.desk();
                judge(want, outcome(() -> act.on(desk)));
                judge(seen(due, look), look.of(desk));
            }
        }
    }

    private static String seen(Recipe recipe, Looks look) {
        return SEEN.computeIfAbsent(recipe, r -> new HashMap<>())
                .computeIfAbsent(look, l -> l.of(recipe.desk()));
    }

    /** Every number outside of the bounds, the nearest and the farthest ones, is refused and leaves no trace. */
    static void outside(Class<? extends RuntimeException> want, Recipe recipe, int least, int greatest,
            NumberAct act) {
        for (int number : new int[] {least - 1, greatest + 1, -1, Integer.MIN_VALUE, Integer.MAX_VALUE}) {
            untouched(want, recipe, desk -> act.on(desk, number));
        }
    }

    // ---- desks

    /** A desk whose rooms have their greatest capacity. */
    static SubstituteDesk wideDesk(int teachers) {
        SubstituteDesk desk = deskOf(teachers);
        for (int room = 0; room < 6; room++) {
            desk.setCapacity(room, 60);
        }
        return desk;
    }

    /** In this slot, lesson k is that of class k, subject 0, teacher k and room k; the first ones are absent. */
    static SubstituteDesk slotDesk(int slot, int teachers, int lessons, int absent) {
        SubstituteDesk desk = wideDesk(teachers);
        for (int k = 0; k < lessons; k++) {
            desk.addLesson(slot, k, 0, k, k);
        }
        for (int k = 0; k < absent; k++) {
            desk.setAbsent(k, slot, true);
        }
        return desk;
    }

    /** In each of these slots there is an open lesson of class 0 and teacher 0, in this order. */
    static SubstituteDesk openDesk(int teachers, int... slots) {
        SubstituteDesk desk = deskOf(teachers);
        for (int slot : slots) {
            desk.addLesson(slot, 0, 0, 0, 0);
            desk.setAbsent(0, slot, true);
        }
        return desk;
    }

    /** Two teachers, each of whom covers a lesson of the other one: shares 48 and 24. */
    static SubstituteDesk mutualDesk() {
        SubstituteDesk desk = deskOf(2);
        for (int k = 0; k < 2; k++) {
            desk.addLesson(5 * k, 0, 0, k, 0);
            desk.setAbsent(k, 5 * k, true);
            desk.cover(k, 1 - k);
        }
        return desk;
    }

    /**
     * 7 teachers and 7 lessons. In slot 9, lesson 0 is split between 1, which teacher 5 covers, and 2, which is taught,
     * as 3 is; 4 is open, and nobody can cover it. In slot 10, lesson 5 is open; in slot 29, lesson 6 is taught.
     * A cover and a splitting were undone; teacher 5 is at the limit. An earlier school is saved, more than 8 changes
     * were made, and the reason 1 and the error position 3 are kept.
     */
    private static SubstituteDesk richWithoutInput() {
        return makeRich(new SubstituteDesk());
    }

    private static SubstituteDesk makeRich(SubstituteDesk desk) {
        int[][] teachers = {{7, 1}, {63, 2}, {63, 3}, {1, 4}, {56, 1}, {63, 2}, {32, 3}};
        for (int[] pair : teachers) {
            desk.addTeacher(pair[0], pair[1]);
        }
        for (int k = 0; k < 5; k++) {
            desk.setCapacity(k, 60);
            desk.addLesson(9, k, k, k, k);
        }
        desk.addLesson(10, 0, 0, 0, 0);
        desk.addLesson(29, 5, 5, 3, 5);
        int[][] absences = {{0, 9}, {1, 9}, {4, 9}, {0, 10}};
        for (int[] pair : absences) {
            desk.setAbsent(pair[0], pair[1], true);
        }
        desk.save();
        desk.cover(1, 6);
        desk.split(0, 2, 1);
        desk.setAbsent(6, 9, true);
        desk.cover(1, 5);
        desk.split(0, 1, 2);
        desk.setLimit(5, 1);
        outcome(() -> desk.cover(4, 4));
        outcome(() -> readText(desk, "t0*9"));
        return desk;
    }

    /** The same, and the input is the start of a text. */
    private static SubstituteDesk rich() {
        SubstituteDesk desk = richWithoutInput();
        appendText(desk, "t0*1;a");
        return desk;
    }

    /**
     * RICH, made on a desk that was cleared: before, its teachers had points and absences, and there were an eighth
     * teacher with covers and a lesson 7 in slot 9, covered or open, of a teacher who is absent there in RICH, too.
     */
    static SubstituteDesk used(boolean isCovered) {
        SubstituteDesk desk = wideDesk(8);
        desk.setLimit(7, 3);
        for (int k = 0; k < 7; k++) {
            desk.addLesson(12 + k, 3, 3, k, 5);
            desk.setAbsent(k, 12 + k, true);
            desk.cover(k, k % 2 == 0 && k < 6 ? 7 : (k + 2) % 7);
        }
        desk.addLesson(9, 5, 0, 4, 5);
        desk.setAbsent(4, 9, true);
        if (isCovered) {
            desk.cover(7, 2);
        }
        for (int k = 0; k < 6; k++) {
            desk.setSize(k, 4 + k);
            desk.plannedSpread(k % 5);
        }
        desk.clear();
        makeRich(desk);
        appendText(desk, "t0*1;a");
        return desk;
    }

    /** 8 teachers, 40 lessons, 8 changes, and an input of 70 characters. */
    private static SubstituteDesk full() {
        SubstituteDesk desk = deskOf(8);
        for (int k = 0; k < 40; k++) {
            desk.addLesson(k / 4, k % 4, 0, k % 4, k % 4);
        }
        for (int k = 0; k < 7; k++) {
            appendText(desk, "t012345*1;");
        }
        return desk;
    }

    /** Of 4 teachers, the first one is absent on day 2 in the periods 0 to 4, where 5 lessons are open. */
    private static SubstituteDesk crowded() {
        return openDesk(4, 12, 13, 14, 15, 16);
    }
}
