/** The sentences of the description on the history and on exceptions, and those of promises 43 to 45. */
final class HistoryBounds extends Bounds {
    /** RICH, without a change that is remembered. */
    private static final Recipe FORGOTTEN = () -> {
        SubstituteDesk desk = RICH.desk();
        desk.save();
        desk.restore();
        return desk;
    };

    private static final Act[] CHANGES = {
        d -> d.addTeacher(9, 4), d -> d.setLimit(5, 3), d -> d.setSize(4, 7), d -> d.setCapacity(4, 20),
        d -> d.addLesson(0, 0, 0, 0, 0), d -> d.removeLesson(0), d -> d.removeLesson(1), d -> d.removeLesson(6),
        d -> d.setRoom(3, 5), d -> d.setAbsent(5, 9, true), d -> d.setAbsent(1, 9, false), d -> d.cover(5, 6),
        d -> d.uncover(1), d -> d.split(4, 3, 1), d -> d.unsplit(0), d -> d.coverDay(1), d -> d.carryOut(4),
        d -> d.setLimit(5, 1), d -> d.setSize(4, 20), d -> d.setCapacity(0, 60), d -> d.setRoom(0, 0),
        d -> d.coverDay(4), d -> d.carryOut(0),
    };

    static void run() {
        calls512();
        changes();
        questions();
        eightChanges();
        whatIsNotRemembered();
        refusedCalls();
        order();
        orderOfPlansAndTexts();
        sets();
        undo();
        undoAroundTheRing();
        save();
        restore();
    }

    private static void calls512() {
        about(0, "An object is used for at most 512 calls after it has been made");
        SubstituteDesk desk = deskOf(1);
        int before = 2;
        for (int call = 2; call <= 510; call++) {
            int limit = call % 4;
            int due = before;
            is(due, () -> desk.setLimit(0, limit));
            before = limit;
        }
        is(7, desk::undo);
        is(509 % 4, () -> desk.teacher(0, 2));
    }

    private static void changes() {
        about(0, "A change is a call of addTeacher, setLimit, setSize, setCapacity, addLesson, removeLesson, setRoom");
        for (Act change : CHANGES) {
            SubstituteDesk desk = FORGOTTEN.desk();
            change.on(desk);
            is(0, desk::undo);
            refuses(NO_ELEMENT, desk::undo);
            // The change and its undoing leave the desk as it was before.
            leavesAlike("0.0", FORGOTTEN, FORGOTTEN, d -> {
                change.on(d);
                return d.undo();
            });
        }
        leavesAlike("0.0", FORGOTTEN, () -> {
            SubstituteDesk d = RICH_WITHOUT_INPUT.desk();
            d.save();
            d.restore();
            return d;
        }, d -> {
            readText(d, "5@9;");
            return d.undo();
        });
        // A call that throws is no change.
        SubstituteDesk desk = FORGOTTEN.desk();
        refuses(ARGUMENT, () -> desk.addTeacher(0, 1));
        refuses(ARGUMENT, () -> desk.setLimit(0, 4));
        refuses(STATE, () -> desk.setSize(0, 1));
        refuses(STATE, () -> desk.setCapacity(0, 10));
        refuses(UNSUPPORTED, () -> desk.addLesson(9, 0, 0, 0, 0));
        refuses(INDEX, () -> desk.removeLesson(7));
        refuses(STATE, () -> desk.setRoom(0, 1));
        refuses(STATE, () -> desk.setAbsent(0, 9, true));
        refuses(UNSUPPORTED, () -> desk.cover(4, 0));
        refuses(STATE, () -> desk.uncover(0));
        refuses(ARGUMENT, () -> desk.split(4, 1, 1));
        refuses(STATE, () -> desk.unsplit(1));
        refuses(INDEX, () -> desk.coverDay(5));
        refuses(NO_ELEMENT, () -> desk.carryOut(1));
        refuses(ARGUMENT, desk::read);
        refuses(STATE, () -> readText(desk, "a0@9;"));
        refuses(NO_ELEMENT, desk::undo);
    }

    private static void questions() {
        about(0, "Methods whose documentation does not mention a change only answer a question.");
        Recipe[] recipes = {RICH, FORGOTTEN};
        for (Recipe recipe : recipes) {
            for (int k : upTo(8)) {
                onlyAnswers(recipe.desk().count(k), recipe, d -> d.count(k));
            }
            onlyAnswers(30, recipe, d -> d.lesson(1, 7));
            onlyAnswers(24, recipe, d -> d.teacher(5, 4));
            onlyAnswers(6, recipe, d -> d.lessonOf(29, 5));
            onlyAnswers(24, recipe, d -> d.absent(0, 1));
            onlyAnswers(55, recipe, d -> d.free(5, 1));
            onlyAnswers(32, recipe, d -> d.freeRooms(9));
            onlyAnswers(2, recipe, d -> d.openOn(1));
            onlyAnswers(4, recipe, d -> d.open(1, 0));
            onlyAnswers(4, recipe, d -> d.why(4, 5));
            onlyAnswers(5, recipe, d -> d.points(4, 3));
            onlyAnswers(3, recipe, d -> d.suggestion(5));
            onlyAnswers(2, recipe, d -> d.host(0, true));
            onlyAnswers(1, recipe, SubstituteDesk::refusal);
            onlyAnswers(24, recipe, SubstituteDesk::spread);
            onlyAnswers(5, recipe, d -> d.extreme(true));
            onlyAnswers(24, recipe, d -> d.plannedSpread(0));
            onlyAnswers(1, recipe, d -> d.plans(0));
            onlyAnswers(2.5, recipe, d -> d.averagePoints(36));
            onlyAnswers(0, recipe, SubstituteDesk::audit);
            onlyAnswers(2, recipe, d -> d.lost(0));
            onlyAnswers(3, recipe, SubstituteDesk::errorPosition);
            onlyAnswers(12, recipe, d -> d.describe(6, -1));
        }
        onlyAnswers(1, () -> {
            SubstituteDesk d = RICH.desk();
            d.removeLesson(4);
            return d;
        }, d -> d.planned(1, 0));
        // append and save are no changes of the history either.
        SubstituteDesk desk = FORGOTTEN.desk();
        desk.append('t');
        desk.save();
        refuses(NO_ELEMENT, desk::undo);
    }

    private static void eightChanges() {
        about(0, "The object remembers everything, the counts of undone covers and splittings included, except");
        for (int changes = 0; changes <= 26; changes++) {
            SubstituteDesk desk = new SubstituteDesk();
            for (int k = 0; k < changes; k++) {
                desk.setSize(0, k + 2);
            }
            for (int left = Math.min(changes, 8) - 1; left >= 0; left--) {
                int due = left;
                is(due, desk::undo);
            }
            refuses(NO_ELEMENT, desk::undo);
            int due = changes <= 8 ? 20 : changes - 7;
            is(due, () -> desk.setSize(0, 1));
        }
        // The counts: each undoing takes back what ended with the change.
        SubstituteDesk desk = RICH.desk();
        desk.setAbsent(5, 9, true);
        is(2, () -> desk.count(6));
        is(2, () -> desk.count(7));
        desk.undo();
        is(1, () -> desk.count(6));
        is(1, () -> desk.count(7));
        desk.removeLesson(2);
        desk.removeLesson(0);
        is(1, () -> desk.count(6));
        is(2, () -> desk.count(7));
        desk.removeLesson(0);
        is(2, () -> desk.count(6));
        desk.save();
        desk.addLesson(0, 0, 0, 0, 0);
        desk.undo();
        is(2, () -> desk.count(6));
        desk.undo();
        is(1, () -> desk.count(6));
        is(2, () -> desk.count(7));
        desk.undo();
        desk.undo();
        is(1, () -> desk.count(6));
        is(1, () -> desk.count(7));
        SubstituteDesk covers = CROWDED.desk();
        covers.cover(0, 1);
        covers.setAbsent(1, 12, true);
        covers.save();
        covers.removeLesson(4);
        covers.undo();
        is(1, () -> covers.count(6));
        is(0, () -> covers.count(7));
        covers.clear();
        covers.restore();
        is(1, () -> covers.count(6));
        is(0, () -> covers.count(7));
        // A call that changes nothing is a change, too.
        Act[] idle = {
            d -> d.setLimit(0, 2), d -> d.setSize(5, 20), d -> d.setCapacity(0, 60), d -> d.setRoom(6, 5),
            d -> d.coverDay(4), d -> d.carryOut(4),
        };
        for (Act act : idle) {
            SubstituteDesk one = FORGOTTEN.desk();
            act.on(one);
            act.on(one);
            is(1, one::undo);
            is(0, one::undo);
            refuses(NO_ELEMENT, one::undo);
        }
    }

    private static void whatIsNotRemembered() {
        // The input, the error position, the reason and what was saved are as they were before undoing.
        SubstituteDesk desk = RICH_WITHOUT_INPUT.desk();
        desk.setLimit(0, 3);
        refuses(UNSUPPORTED, () -> desk.cover(4, 2));
        refuses(ARGUMENT, () -> readText(desk, "t0*1;x"));
        appendText(desk, "t0*");
        desk.save();
        desk.undo();
        is(3, desk::refusal);
        is(5, desk::errorPosition);
        is(4, () -> desk.append('1'));
        is(2, () -> desk.teacher(0, 2));
        is(7, desk::restore);
        is(3, () -> desk.teacher(0, 2));
        is(5, () -> desk.append(';'));
        is(1, desk::read);
        is(0, desk::undo);
        is(1, () -> desk.append('t'));
        // clear and restore forget the changes, all other calls do not.
        for (boolean isClear : new boolean[] {true, false}) {
            SubstituteDesk other = RICH.desk();
            is(7, () -> isClear ? other.clear() : other.restore());
            refuses(NO_ELEMENT, other::undo);
            other.setSize(0, 11);
            is(0, other::undo);
            refuses(NO_ELEMENT, other::undo);
        }
        SubstituteDesk saving = RICH.desk();
        saving.save();
        is(7, saving::undo);
    }

    private static void refusedCalls() {
        about(0, "A method that throws an exception leaves the state unchanged, unless its documentation says");
        // The rows of the promises are checked where these stand; here, desks without a remembered change.
        untouched(ARGUMENT, FORGOTTEN, d -> d.addTeacher(64, 1));
        untouched(STATE, FORGOTTEN, d -> d.setSize(0, 1));
        untouched(STATE, FORGOTTEN, d -> d.setCapacity(1, 29));
        untouched(UNSUPPORTED, FORGOTTEN, d -> d.addLesson(9, 5, 0, 5, 5));
        untouched(STATE, FORGOTTEN, d -> d.setRoom(1, 2));
        untouched(STATE, FORGOTTEN, d -> d.setAbsent(0, 9, true));
        untouched(UNSUPPORTED, FORGOTTEN, d -> d.cover(4, 4), Looks.KEPT);
        untouched(STATE, FORGOTTEN, d -> d.uncover(2));
        untouched(UNSUPPORTED, FORGOTTEN, d -> d.split(4, 0, 1));
        untouched(STATE, FORGOTTEN, d -> d.unsplit(4));
        untouched(INDEX, FORGOTTEN, d -> d.coverDay(-1));
        untouched(NO_ELEMENT, FORGOTTEN, d -> d.carryOut(1));
        untouched(NO_ELEMENT, FORGOTTEN, SubstituteDesk::undo);
    }

    private static void order() {
        about(0, "If several exceptions apply, the one that is documented first is thrown.");
        untouched(ARGUMENT, FULL, d -> d.addTeacher(0, 1));
        untouched(ARGUMENT, FULL, d -> d.addTeacher(64, 1));
        untouched(ARGUMENT, FULL, d -> d.addTeacher(1, 0));
        untouched(ARGUMENT, FULL, d -> d.addTeacher(1, 5));
        untouched(INDEX, RICH, d -> d.setLimit(7, 4));
        untouched(INDEX, RICH, d -> d.setSize(6, 31));
        untouched(INDEX, RICH, d -> d.setSize(-1, 0));
        untouched(ARGUMENT, RICH, d -> d.setSize(0, 31));
        untouched(ARGUMENT, RICH, d -> d.setSize(0, 0));
        untouched(INDEX, RICH, d -> d.setCapacity(6, 9));
        untouched(INDEX, RICH, d -> d.setCapacity(-1, 61));
        untouched(ARGUMENT, RICH, d -> d.setCapacity(1, 9));
        int[][] wrong = {{30, 0, 0, 0, 0}, {0, 6, 0, 0, 0}, {0, 0, 6, 0, 0}, {0, 0, 0, 8, 0}, {0, 0, 0, 0, 6}};
        for (int[] five : wrong) {
            untouched(ARGUMENT, FULL, d -> d.addLesson(five[0], five[1], five[2], five[3], five[4]));
        }
        untouched(UNSUPPORTED, FULL, d -> d.addLesson(0, 0, 0, 4, 4));
        untouched(UNSUPPORTED, FULL, d -> d.addLesson(0, 4, 0, 0, 4));
        untouched(UNSUPPORTED, FULL, d -> d.addLesson(0, 4, 0, 4, 0));
        untouched(INDEX, RICH, d -> d.setRoom(7, 6));
        untouched(INDEX, RICH, d -> d.lesson(7, 8));
        untouched(INDEX, RICH, d -> d.teacher(7, 8));
        untouched(INDEX, RICH, d -> d.lessonOf(9, 6));
        untouched(INDEX, RICH, d -> d.lessonOf(30, 0));
        untouched(INDEX, RICH, d -> d.setAbsent(0, 30, false));
        untouched(INDEX, RICH, d -> d.setAbsent(7, 9, false));
        untouched(INDEX, RICH, d -> d.open(5, -1));
        untouched(INDEX, RICH, d -> d.why(3, 7));
        untouched(INDEX, RICH, d -> d.why(7, 0));
        untouched(STATE, () -> slotDesk(0, 1, 1, 0), d -> d.suggestion(0));
        untouched(INDEX, RICH, d -> d.cover(3, 7));
        untouched(INDEX, RICH, d -> d.cover(7, 0));
        // What is not open is told before the reason, so none is kept.
        untouched(STATE, RICH, d -> d.cover(3, 0));
        untouched(STATE, RICH, d -> d.cover(1, 5));
        untouched(INDEX, RICH, d -> d.split(3, 7, 7));
        untouched(INDEX, RICH, d -> d.split(3, 2, 7));
        untouched(INDEX, RICH, d -> d.split(3, 7, 2));
        untouched(STATE, RICH, d -> d.split(3, 2, 2));
        untouched(STATE, RICH, d -> d.split(3, 5, 2));
        untouched(STATE, RICH, d -> d.split(0, 4, 2));
        untouched(ARGUMENT, RICH, d -> d.split(4, 0, 0));
        untouched(ARGUMENT, RICH, d -> d.split(4, 0, 5));
        untouched(ARGUMENT, RICH, d -> d.split(4, 5, 0));
    }

    private static void orderOfPlansAndTexts() {
        // Five open lessons that nobody can cover, and an index that no plan has.
        Recipe crowdedAndHopeless = () -> {
            SubstituteDesk d = CROWDED.desk();
            for (int teacher : upTo(4)) {
                d.setLimit(teacher, 0);
            }
            return d;
        };
        untouched(STATE, crowdedAndHopeless, d -> d.plannedSpread(2));
        untouched(STATE, crowdedAndHopeless, d -> d.planned(2, 9));
        untouched(STATE, crowdedAndHopeless, d -> d.carryOut(2));
        untouched(STATE, CROWDED, d -> d.planned(2, -1));
        untouched(INDEX, CROWDED, d -> d.planned(5, 9));
        untouched(INDEX, BARE, d -> d.plannedSpread(5));
        untouched(INDEX, BARE, d -> d.carryOut(5));
        untouched(ARGUMENT, FULL, d -> d.append((char) 31));
        untouched(ARGUMENT, FULL, d -> d.append((char) 127));
        untouched(ARGUMENT, RICH_WITHOUT_INPUT, d -> readText(d, "a0@9;a"), Looks.KEPT);
        untouched(INDEX, RICH, d -> d.describe(7, 99));
        // No teacher of the set exists, whatever else the set holds.
        untouched(ARGUMENT, BARE, d -> d.averagePoints(-1));
    }

    private static void sets() {
        about(0, "Sets are bit masks, bit k for number k.");
        for (int k : upTo(6)) {
            SubstituteDesk desk = deskOf(8);
            desk.clear();
            desk.addTeacher(1 << k, 1);
            desk.addTeacher(63, 1);
            is(1 << k, () -> desk.teacher(0, 0));
            desk.addLesson(k, 0, k, 1, k);
            is(63 - (1 << k), () -> desk.freeRooms(k));
            is(63 - (1 << k), () -> desk.free(1, 0));
            desk.setAbsent(1, k, true);
            is(1 << k, () -> desk.absent(1, 0));
            int points = k < 3 ? 2 : k < 5 ? 3 : 4;
            is(points, () -> desk.cover(0, 0));
            is(points, () -> desk.averagePoints(1));
            is(0, () -> desk.averagePoints(2));
        }
    }

    private static void undo() {
        about(43, "Undoes the latest change that is remembered.");
        SubstituteDesk desk = new SubstituteDesk();
        desk.addTeacher(1, 1);
        desk.setLimit(0, 3);
        desk.setLimit(0, 1);
        desk.undo();
        is(3, () -> desk.teacher(0, 2));
        desk.undo();
        is(2, () -> desk.teacher(0, 2));
        desk.undo();
        is(0, () -> desk.count(0));
        // RICH: its last change set the limit of 5, the one before split lesson 0.
        SubstituteDesk rich = RICH.desk();
        rich.undo();
        is(2, () -> rich.teacher(5, 2));
        is(2, () -> rich.lesson(0, 5));
        rich.undo();
        is(3, () -> rich.lesson(0, 5));
        is(1, () -> rich.lesson(1, 5));
        rich.undo();
        is(3, () -> rich.lesson(1, 5));
        is(1, () -> rich.count(6));
        is(1, () -> rich.count(7));
        rich.undo();
        is(0, () -> rich.count(6));
        is(0, () -> rich.count(7));
        is(2, () -> rich.host(0, false));
        is(6, () -> rich.lesson(1, 6));
        about(43, "Returns the number of changes that are still remembered.");
        is(3, rich::undo);
        is(2, rich::undo);
        is(1, rich::undo);
        is(0, rich::undo);
        about(43, "Throws NoSuchElementException if no change is remembered");
        refuses(NO_ELEMENT, rich::undo);
        refuses(NO_ELEMENT, desk::undo);
        untouched(NO_ELEMENT, BARE, SubstituteDesk::undo);
        untouched(NO_ELEMENT, FORGOTTEN, SubstituteDesk::undo);
        is(2, () -> rich.setLimit(0, 2));
        is(0, rich::undo);
        refuses(NO_ELEMENT, rich::undo);
    }

    /** For each number of changes, undone and made anew, the sizes before come back in their order. */
    private static void undoAroundTheRing() {
        about(43, "Undoes the latest change that is remembered.");
        for (int first = 0; first <= 17; first++) {
            for (int undone = 0; undone <= Math.min(first, 8); undone++) {
                SubstituteDesk desk = new SubstituteDesk();
                java.util.ArrayDeque<Integer> past = new java.util.ArrayDeque<>();
                int size = 20;
                for (int k = 0; k < first; k++) {
                    past.push(size);
                    size = k % 9 + 1;
                    desk.setSize(0, size);
                }
                int remembered = Math.min(first, 8);
                for (int k = 0; k < undone; k++) {
                    remembered--;
                    int left = remembered;
                    is(left, desk::undo);
                    size = past.pop();
                }
                for (int k = 0; k < 3; k++) {
                    past.push(size);
                    size = 21 + k;
                    desk.setSize(0, size);
                }
                remembered = Math.min(remembered + 3, 8);
                while (remembered > 0) {
                    remembered--;
                    int left = remembered;
                    is(left, desk::undo);
                    size = past.pop();
                }
                refuses(NO_ELEMENT, desk::undo);
                int due = size;
                is(due, () -> desk.setSize(0, 5));
            }
        }
    }

    private static void save() {
        about(44, "Saves everything except the input, the error position, the reason and what was saved before");
        // Whatever happens between, restoring brings the school back, and nothing else.
        Act[] between = {
            SubstituteDesk::clear, d -> d.removeLesson(0), d -> d.setAbsent(5, 9, true), d -> d.setSize(4, 1),
            d -> d.setCapacity(0, 33), d -> d.coverDay(1), d -> d.addTeacher(1, 1), d -> d.setLimit(5, 3),
            d -> d.undo(), HistoryBounds::replaceAll,
        };
        for (Act act : between) {
            leavesAlike("7.0", RICH, FORGOTTEN, d -> {
                d.save();
                act.on(d);
                return d.restore();
            });
        }
        SubstituteDesk desk = RICH_WITHOUT_INPUT.desk();
        desk.save();
        refuses(UNSUPPORTED, () -> desk.cover(4, 5));
        refuses(ARGUMENT, () -> readText(desk, "t0*1;x"));
        appendText(desk, "t0");
        desk.restore();
        is(4, desk::refusal);
        is(5, desk::errorPosition);
        is(3, () -> desk.append('*'));
        // What was saved before is replaced.
        desk.removeLesson(0);
        desk.save();
        desk.clear();
        is(6, desk::restore);
        is(6, desk::save);
        desk.clear();
        is(0, desk::save);
        is(0, desk::restore);
        is(0, () -> desk.count(0));
        about(44, "Returns the number of lessons.");
        is(0, () -> BARE.desk().save());
        is(7, () -> RICH.desk().save());
        is(40, () -> FULL.desk().save());
        is(0, () -> deskOf(8).save());
    }

    /** Other teachers, and other lessons in other slots, with other sizes and capacities. */
    private static double replaceAll(SubstituteDesk desk) {
        desk.clear();
        for (int k : upTo(8)) {
            desk.addTeacher(1 + k, 1 + (k + 1) % 4);
            desk.setLimit(k, 3);
            desk.setAbsent(k, k, true);
        }
        for (int k : upTo(6)) {
            desk.setSize(k, 10 + k);
            desk.setCapacity(k, 50 + k);
            int lesson = desk.addLesson(k, 5 - k, 5 - k, k, 5 - k);
            if (k < 3) {
                desk.cover(lesson, 7);
            }
            desk.addLesson(12 + k, k, k, 7 - k, k);
        }
        return desk.count(1);
    }

    private static void restore() {
        about(45, "Restores what was saved.");
        // RICH was saved before its covers and splittings; a bare desk saved is a bare desk restored.
        SubstituteDesk desk = RICH.desk();
        desk.restore();
        is(0, () -> desk.count(3));
        is(0, () -> desk.count(4));
        is(4, () -> desk.count(5));
        is(0, () -> desk.count(6));
        is(0, () -> desk.count(7));
        is(2, () -> desk.teacher(5, 2));
        is(0, () -> desk.absent(6, 1));
        SubstituteDesk bare = BARE.desk();
        bare.save();
        bare.addTeacher(1, 1);
        bare.addLesson(0, 0, 0, 0, 0);
        bare.setSize(3, 3);
        bare.setCapacity(3, 13);
        is(0, bare::restore);
        is(0, () -> bare.count(0));
        is(20, () -> bare.setSize(3, 1));
        is(30, () -> bare.setCapacity(3, 10));
        about(45, "It stays saved.");
        is(0, bare::restore);
        is(20, () -> bare.setSize(3, 1));
        for (int k = 0; k < 3; k++) {
            is(7, desk::restore);
            is(4, () -> desk.count(5));
            // What is done with the restored school does not reach the saved one.
            desk.cover(1, 6);
            desk.removeLesson(0);
            desk.setLimit(2, 0);
            desk.setSize(3, 1);
            desk.setAbsent(2, 9, true);
        }
        desk.clear();
        is(7, desk::restore);
        is(20, () -> desk.lesson(3, 7));
        is(2, () -> desk.teacher(2, 2));
        is(0, () -> desk.absent(2, 1));
        about(45, "Returns the number of lessons.");
        SubstituteDesk full = FULL.desk();
        full.save();
        full.removeLesson(0);
        is(40, full::restore);
        is(40, () -> full.count(1));
        about(45, "Throws IllegalStateException if nothing was saved");
        untouched(STATE, BARE, SubstituteDesk::restore);
        untouched(STATE, FULL, SubstituteDesk::restore);
        untouched(STATE, CROWDED, SubstituteDesk::restore);
        SubstituteDesk cleared = deskOf(1);
        cleared.clear();
        refuses(STATE, cleared::restore);
    }
}
