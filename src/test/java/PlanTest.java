/** Promises 30 to 38: fairness and plans. */
final class PlanTest extends Check {
    public static void main(String[] args) {
        spread();
        extreme();
        sharesThatDifferByOne();
        plansWithoutTeachers();
        planOfOneLesson();
        bestPlanIsLexicographicallyFirst();
        bestPlanHasLeastSpread();
        plansMindSlotsAndLimits();
        plansMindPresentCovers();
        plansOfTheFirstTeacher();
        plansWithSharesBefore();
        noPlan();
        tooManyOpenLessons();
        carryOut();
        wrongDays();
        averagePoints();
        audit();
        lost();
        finish();
    }

    private static void spread() {
        SubstituteDesk desk = new SubstituteDesk();
        refuses(NO_ELEMENT, desk::spread);
        desk.addTeacher(63, 3);
        is(0, desk::spread);
        desk.addTeacher(63, 4);
        desk.addLesson(0, 0, 0, 0, 0);
        desk.addLesson(5, 0, 0, 1, 0);
        desk.setAbsent(0, 0, true);
        desk.cover(0, 1);
        is(6, desk::spread);
        desk.setAbsent(1, 5, true);
        desk.cover(1, 0);
        is(10, desk::spread);
        desk.addTeacher(1, 1);
        is(16, desk::spread);
    }

    private static void extreme() {
        SubstituteDesk desk = new SubstituteDesk();
        refuses(NO_ELEMENT, () -> desk.extreme(true));
        refuses(NO_ELEMENT, () -> desk.extreme(false));
        for (int k = 0; k < 4; k++) {
            desk.addTeacher(63, k == 3 ? 2 : 1);
        }
        is(0, () -> desk.extreme(true));
        is(0, () -> desk.extreme(false));
        for (int day = 0; day < 4; day++) {
            desk.addLesson(6 * day, 0, 0, 0, 0);
            desk.setAbsent(0, 6 * day, true);
        }
        desk.cover(0, 3);
        is(3, () -> desk.extreme(true));
        is(0, () -> desk.extreme(false));
        desk.cover(1, 2);
        is(2, () -> desk.extreme(true));
        desk.cover(2, 3);
        // Both have the share 24 now.
        is(2, () -> desk.extreme(true));
        desk.cover(3, 1);
        is(1, () -> desk.extreme(true));
        desk.addTeacher(1, 1);
        is(0, () -> desk.extreme(false));
    }

    private static void sharesThatDifferByOne() {
        SubstituteDesk desk = new SubstituteDesk();
        desk.addTeacher(63, 4);
        desk.addTeacher(63, 3);
        desk.addTeacher(63, 3);
        for (int k = 0; k < 3; k++) {
            desk.addLesson(0, k, 0, k, k);
        }
        desk.setCapacity(0, 60);
        desk.setCapacity(1, 60);
        desk.setAbsent(2, 0, true);
        desk.split(2, 0, 1);
        is(3, () -> desk.teacher(0, 4));
        is(4, () -> desk.teacher(1, 4));
        is(1, () -> desk.extreme(true));
        is(2, () -> desk.extreme(false));
        is(4, desk::spread);
        is(1, () -> desk.averagePoints(3));
        is(1, () -> desk.averagePoints(1));
    }

    private static void plansWithoutTeachers() {
        SubstituteDesk desk = new SubstituteDesk();
        for (int day = 0; day < 5; day++) {
            int asked = day;
            is(1, () -> desk.plans(asked));
            refuses(NO_ELEMENT, () -> desk.plannedSpread(asked));
            refuses(NO_ELEMENT, () -> desk.planned(asked, 0));
            refuses(NO_ELEMENT, () -> desk.carryOut(asked));
        }
        desk.addTeacher(1, 1);
        is(1, () -> desk.plans(4));
        is(0, () -> desk.plannedSpread(4));
        refuses(NO_ELEMENT, () -> desk.planned(4, 0));
        is(0, () -> desk.carryOut(4));
        is(1, desk::undo);
        is(0, () -> desk.count(6));
    }

    private static void planOfOneLesson() {
        SubstituteDesk desk = new SubstituteDesk();
        desk.addTeacher(63, 1);
        desk.addTeacher(63, 2);
        desk.addTeacher(1, 4);
        desk.addLesson(11, 0, 1, 0, 0);
        desk.setAbsent(0, 11, true);
        is(2, () -> desk.plans(1));
        // 4 points by 1 are a share of 24; 6 points by 2 are one of 18.
        is(18, () -> desk.plannedSpread(1));
        is(2, () -> desk.planned(1, 0));
        is(1, () -> desk.suggestion(0));
        refuses(NO_ELEMENT, () -> desk.planned(1, 1));
        for (int far : FAR) {
            refuses(NO_ELEMENT, () -> desk.planned(1, far));
        }
        is(3, () -> desk.lesson(0, 5));
        is(0, desk::spread);
    }

    private static void bestPlanIsLexicographicallyFirst() {
        SubstituteDesk desk = deskOf(4);
        // The order is that of the slots, not that of the numbers.
        desk.addLesson(2, 0, 0, 0, 0);
        desk.addLesson(1, 0, 0, 0, 0);
        desk.addLesson(0, 0, 0, 0, 0);
        for (int slot = 0; slot < 3; slot++) {
            desk.setAbsent(0, slot, true);
        }
        for (int teacher = 1; teacher < 4; teacher++) {
            desk.setLimit(teacher, 3);
        }
        is(27, () -> desk.plans(0));
        is(24, () -> desk.plannedSpread(0));
        is(1, () -> desk.planned(0, 0));
        is(2, () -> desk.planned(0, 1));
        is(3, () -> desk.planned(0, 2));
        is(3, () -> desk.carryOut(0));
        is(1, () -> desk.lesson(2, 6));
        is(2, () -> desk.lesson(1, 6));
        is(3, () -> desk.lesson(0, 6));
        is(24, desk::spread);
    }

    private static void bestPlanHasLeastSpread() {
        SubstituteDesk desk = new SubstituteDesk();
        desk.addTeacher(63, 1);
        desk.addTeacher(63, 1);
        desk.addTeacher(63, 2);
        desk.addTeacher(62, 3);
        for (int slot = 12; slot < 16; slot++) {
            desk.addLesson(slot, 0, 0, 0, 0);
            desk.setAbsent(0, slot, true);
        }
        desk.setLimit(3, 3);
        desk.setLimit(2, 3);
        // Points with the subject 2, 2, 2, 3; for 3, who lacks it, 4, 4, 4, 5; 0 stays at 0.
        is(24, () -> desk.plannedSpread(2));
        is(1, () -> desk.planned(2, 0));
        is(2, () -> desk.planned(2, 1));
        is(2, () -> desk.planned(2, 2));
        is(3, () -> desk.planned(2, 3));
        is(4, () -> desk.carryOut(2));
        is(24, desk::spread);
        is(20, () -> desk.teacher(3, 4));
    }

    private static void plansMindSlotsAndLimits() {
        SubstituteDesk desk = deskOf(4);
        desk.addLesson(0, 0, 0, 0, 0);
        desk.addLesson(0, 1, 0, 1, 1);
        desk.setAbsent(0, 0, true);
        desk.setAbsent(1, 0, true);
        // Both in one slot by 2 and 3, in two orders.
        is(2, () -> desk.plans(0));
        is(2, () -> desk.planned(0, 0));
        is(3, () -> desk.planned(0, 1));
        desk.addLesson(1, 0, 0, 0, 0);
        desk.setAbsent(0, 1, true);
        // The third one by 1, 2 or 3.
        is(6, () -> desk.plans(0));
        desk.setLimit(2, 1);
        is(4, () -> desk.plans(0));
        desk.setLimit(3, 1);
        is(2, () -> desk.plans(0));
        is(1, () -> desk.planned(0, 2));
        desk.setLimit(1, 0);
        is(0, () -> desk.plans(0));
        refuses(NO_ELEMENT, () -> desk.plannedSpread(0));
    }

    private static void plansMindPresentCovers() {
        SubstituteDesk desk = deskOf(3);
        for (int slot = 0; slot < 3; slot++) {
            desk.addLesson(slot, 0, 0, 0, 0);
            desk.setAbsent(0, slot, true);
        }
        desk.cover(0, 1);
        // 1 may take one more, 2 two more.
        is(3, () -> desk.plans(0));
        is(48, () -> desk.plannedSpread(0));
        is(2, () -> desk.planned(0, 1));
        desk.setLimit(1, 0);
        is(1, () -> desk.plans(0));
        is(2, () -> desk.planned(0, 0));
        desk.cover(1, 2);
        is(1, () -> desk.plans(0));
        is(2, () -> desk.planned(0, 0));
        refuses(NO_ELEMENT, () -> desk.planned(0, 1));
        // The covers of another day do not count for the limit.
        desk.addLesson(6, 0, 0, 0, 0);
        desk.setAbsent(0, 6, true);
        desk.setLimit(1, 1);
        is(2, () -> desk.plans(1));
    }

    private static void plansOfTheFirstTeacher() {
        SubstituteDesk desk = deskOf(3);
        desk.addLesson(0, 0, 0, 2, 0);
        desk.setAbsent(2, 0, true);
        is(0, () -> desk.suggestion(0));
        is(2, () -> desk.plans(0));
        is(0, () -> desk.planned(0, 0));
        is(1, () -> desk.carryOut(0));
        is(2, () -> desk.teacher(0, 3));
        desk.addLesson(1, 0, 0, 2, 0);
        desk.setAbsent(2, 1, true);
        // The share that 0 has already counts in the plan: 24 and 24 instead of 48.
        is(1, () -> desk.suggestion(1));
        is(24, () -> desk.plannedSpread(0));
        is(1, () -> desk.planned(0, 0));
        is(1, () -> desk.averagePoints(3));
    }

    private static void plansWithSharesBefore() {
        SubstituteDesk desk = deskOf(3);
        for (int k = 0; k < 3; k++) {
            desk.addLesson(6 * k, 0, 0, k, 0);
            desk.setAbsent(k, 6 * k, true);
            desk.cover(k, (k + 1) % 3);
        }
        is(0, desk::spread);
        desk.addLesson(29, 0, 0, 0, 0);
        is(0, () -> desk.plannedSpread(4));
        desk.setAbsent(0, 29, true);
        // 24 for 0 and 2, and 72 for 1.
        is(48, () -> desk.plannedSpread(4));
        is(1, () -> desk.planned(4, 0));
        desk.setLimit(1, 0);
        is(48, () -> desk.plannedSpread(4));
        is(2, () -> desk.planned(4, 0));
    }

    private static void noPlan() {
        SubstituteDesk desk = deskOf(1);
        desk.addLesson(0, 0, 0, 0, 0);
        desk.setAbsent(0, 0, true);
        is(0, () -> desk.plans(0));
        refuses(NO_ELEMENT, () -> desk.plannedSpread(0));
        refuses(NO_ELEMENT, () -> desk.planned(0, 0));
        refuses(NO_ELEMENT, () -> desk.carryOut(0));
        is(3, () -> desk.lesson(0, 5));
        is(2, desk::undo);
        is(1, () -> desk.plans(0));
    }

    private static void tooManyOpenLessons() {
        SubstituteDesk desk = deskOf(8);
        for (int period = 0; period < 5; period++) {
            desk.addLesson(24 + period, 0, 0, 0, 0);
            if (period > 0) {
                desk.setAbsent(0, 24 + period, true);
            }
        }
        for (int teacher = 1; teacher < 8; teacher++) {
            desk.setLimit(teacher, 3);
        }
        // All but those where one teacher takes all four.
        is(7 * 7 * 7 * 7 - 7, () -> desk.plans(4));
        desk.setAbsent(0, 24, true);
        refuses(STATE, () -> desk.plans(4));
        refuses(STATE, () -> desk.plannedSpread(4));
        refuses(STATE, () -> desk.planned(4, 0));
        refuses(STATE, () -> desk.planned(4, 9));
        refuses(STATE, () -> desk.carryOut(4));
        is(1, () -> desk.plans(3));
        is(5, () -> desk.openOn(4));
    }

    private static void carryOut() {
        SubstituteDesk desk = deskOf(3);
        desk.addLesson(0, 0, 0, 0, 0);
        desk.addLesson(3, 0, 0, 0, 0);
        desk.setAbsent(0, 0, true);
        desk.setAbsent(0, 3, true);
        is(36, () -> desk.plannedSpread(0));
        is(2, () -> desk.carryOut(0));
        is(1, () -> desk.lesson(0, 6));
        is(2, () -> desk.lesson(1, 6));
        is(2, () -> desk.teacher(1, 3));
        is(3, () -> desk.teacher(2, 3));
        is(0, () -> desk.openOn(0));
        is(0, () -> desk.carryOut(0));
        is(7, desk::undo);
        is(6, desk::undo);
        is(2, () -> desk.openOn(0));
        is(0, () -> desk.teacher(2, 3));
        is(0, desk::audit);
    }

    private static void wrongDays() {
        SubstituteDesk desk = new SubstituteDesk();
        for (int day : new int[] {5, -1, Integer.MIN_VALUE, Integer.MAX_VALUE}) {
            refuses(INDEX, () -> desk.plans(day));
            refuses(INDEX, () -> desk.plannedSpread(day));
            refuses(INDEX, () -> desk.planned(day, 0));
            refuses(INDEX, () -> desk.carryOut(day));
        }
    }

    private static void averagePoints() {
        SubstituteDesk desk = new SubstituteDesk();
        refuses(ARITHMETIC, () -> desk.averagePoints(0));
        refuses(ARGUMENT, () -> desk.averagePoints(1));
        for (int k = 0; k < 3; k++) {
            desk.addTeacher(63, 4);
        }
        desk.addLesson(0, 0, 0, 0, 0);
        desk.addLesson(3, 0, 0, 0, 0);
        desk.setAbsent(0, 0, true);
        desk.setAbsent(0, 3, true);
        desk.cover(0, 1);
        desk.cover(1, 2);
        is(0, () -> desk.averagePoints(1));
        is(2, () -> desk.averagePoints(2));
        is(1.5, () -> desk.averagePoints(5));
        is(2.5, () -> desk.averagePoints(6));
        is(5.0 / 3.0, () -> desk.averagePoints(7));
        refuses(ARITHMETIC, () -> desk.averagePoints(0));
        refuses(ARGUMENT, () -> desk.averagePoints(8));
        refuses(ARGUMENT, () -> desk.averagePoints(15));
        for (int far : FAR) {
            refuses(ARGUMENT, () -> desk.averagePoints(far));
        }
        for (int k = 3; k < 8; k++) {
            desk.addTeacher(1, 1);
        }
        is(5.0 / 8.0, () -> desk.averagePoints(255));
        refuses(ARGUMENT, () -> desk.averagePoints(256));
    }

    private static void audit() {
        SubstituteDesk desk = deskOf(6);
        for (int k = 0; k < 5; k++) {
            desk.setCapacity(k, 60);
            desk.addLesson(4, k, k, k, k);
        }
        is(0, desk::audit);
        desk.setAbsent(0, 4, true);
        desk.setAbsent(1, 4, true);
        desk.cover(1, 5);
        desk.split(0, 1, 2);
        is(0, desk::audit);
        desk.setAbsent(1, 4, false);
        is(0, desk::audit);
        desk.undo();
        is(0, desk::audit);
    }

    private static void lost() {
        SubstituteDesk desk = deskOf(5);
        for (int room = 0; room < 6; room++) {
            desk.setCapacity(room, 60);
        }
        for (int k = 0; k < 4; k++) {
            desk.addLesson(10, k, 0, k, k);
        }
        desk.addLesson(29, 0, 0, 0, 0);
        desk.addLesson(0, 0, 0, 0, 0);
        is(0, () -> desk.lost(0));
        desk.setAbsent(0, 10, true);
        is(1, () -> desk.lost(0));
        desk.setAbsent(0, 29, true);
        is(2, () -> desk.lost(0));
        desk.split(0, 1, 2);
        is(2, () -> desk.lost(0));
        is(0, () -> desk.lost(1));
        desk.cover(4, 4);
        is(1, () -> desk.lost(0));
        desk.setAbsent(3, 10, true);
        is(1, () -> desk.lost(3));
        is(0, () -> desk.lost(5));
        refuses(INDEX, () -> desk.lost(6));
        for (int far : FAR) {
            refuses(INDEX, () -> desk.lost(far));
        }
    }
}
