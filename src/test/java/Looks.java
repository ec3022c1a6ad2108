/** Ways to look at a desk. A look may use the desk up, and takes with its making less than 512 calls. */
enum Looks {
    SCHOOL {
        @Override
        void at(SubstituteDesk desk, StringBuilder text) {
            counts(desk, text);
            for (int teacher : Check.upTo(desk.count(0))) {
                for (int what : Check.upTo(8)) {
                    tell(text, () -> desk.teacher(teacher, what));
                }
                for (int day : Check.upTo(5)) {
                    tell(text, () -> desk.absent(teacher, day));
                    tell(text, () -> desk.free(teacher, day));
                }
            }
        }
    },
    LESSONS {
        @Override
        void at(SubstituteDesk desk, StringBuilder text) {
            for (int lesson : Check.upTo(desk.count(1))) {
                for (int what : Check.upTo(8)) {
                    tell(text, () -> desk.lesson(lesson, what));
                }
            }
        }
    },
    HOSTS {
        @Override
        void at(SubstituteDesk desk, StringBuilder text) {
            for (int lesson : Check.upTo(desk.count(1))) {
                tell(text, () -> desk.host(lesson, false));
                tell(text, () -> desk.host(lesson, true));
                tell(text, () -> desk.describe(lesson, -1));
            }
            for (int slot : Check.upTo(30)) {
                tell(text, () -> desk.freeRooms(slot));
                tell(text, () -> desk.lessonOf(slot, slot % 6));
            }
        }
    },
    DAYS {
        @Override
        void at(SubstituteDesk desk, StringBuilder text) {
            for (int day : Check.upTo(5)) {
                tell(text, () -> desk.openOn(day));
                tell(text, () -> desk.plans(day));
                tell(text, () -> desk.plannedSpread(day));
                for (int index : Check.upTo(6)) {
                    tell(text, () -> desk.open(day, index));
                    tell(text, () -> desk.planned(day, index));
                }
            }
            for (int number : Check.upTo(6)) {
                tell(text, () -> desk.lost(number));
            }
            tell(text, desk::spread);
            tell(text, () -> desk.extreme(true));
            tell(text, () -> desk.extreme(false));
            tell(text, () -> desk.averagePoints(127));
            tell(text, desk::audit);
        }
    },
    COVERS {
        @Override
        void at(SubstituteDesk desk, StringBuilder text) {
            for (int lesson : Check.upTo(7)) {
                tell(text, () -> desk.suggestion(lesson));
                for (int teacher : Check.upTo(8)) {
                    tell(text, () -> desk.why(lesson, teacher));
                    tell(text, () -> desk.points(lesson, teacher));
                }
            }
        }
    },
    SIZES {
        @Override
        void at(SubstituteDesk desk, StringBuilder text) {
            sizes(desk, text);
        }
    },
    KEPT {
        @Override
        void at(SubstituteDesk desk, StringBuilder text) {
            tell(text, desk::refusal);
            tell(text, desk::errorPosition);
        }
    },
    INPUT {
        @Override
        void at(SubstituteDesk desk, StringBuilder text) {
            tell(text, desk::read);
            tell(text, desk::errorPosition);
            counts(desk, text);
        }
    },
    INPUT_THAT_GOES_ON {
        @Override
        void at(SubstituteDesk desk, StringBuilder text) {
            for (char sign : "5@5;".toCharArray()) {
                tell(text, () -> desk.append(sign));
            }
            tell(text, desk::read);
            tell(text, desk::errorPosition);
            counts(desk, text);
        }
    },
    HISTORY {
        @Override
        void at(SubstituteDesk desk, StringBuilder text) {
            for (int k = 0; k < 9; k++) {
                tell(text, desk::undo);
                counts(desk, text);
                for (int number : Check.upTo(8)) {
                    tell(text, () -> desk.teacher(number, 2));
                    tell(text, () -> desk.teacher(number, 3));
                    tell(text, () -> desk.lesson(number, 6));
                }
            }
            sizes(desk, text);
        }
    },
    SAVED {
        @Override
        void at(SubstituteDesk desk, StringBuilder text) {
            tell(text, desk::restore);
            SCHOOL.at(desk, text);
            tell(text, desk::undo);
            sizes(desk, text);
        }
    };

    abstract void at(SubstituteDesk desk, StringBuilder text);

    String of(SubstituteDesk desk) {
        StringBuilder text = new StringBuilder(name()).append(": ");
        at(desk, text);
        return text.toString();
    }

    static void tell(StringBuilder text, Check.Call call) {
        text.append(Check.outcome(call)).append(' ');
    }

    static void counts(SubstituteDesk desk, StringBuilder text) {
        for (int what : Check.upTo(8)) {
            tell(text, () -> desk.count(what));
        }
    }

    /** Sizes and capacities can only be asked by setting them. */
    static void sizes(SubstituteDesk desk, StringBuilder text) {
        for (int number : Check.upTo(6)) {
            tell(text, () -> desk.setSize(number, 1));
            tell(text, () -> desk.setCapacity(number, 60));
        }
    }
}
