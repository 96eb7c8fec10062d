/** The sentences of the document's promises, each in a test of its own. SentenceTest runs them. */
final class PromiseSentences extends Sentences {
    private static final String NO_STUDENT = "Throws `IndexOutOfBoundsException` if there is no such student";
    private static final String NO_STUDENT_OR_KEYS = "Throws `IndexOutOfBoundsException` if there is no such student or "
        + "key, of either";
    private static final String NO_CONTEST_OR_STUDENT = "Throws `IndexOutOfBoundsException` if there is no such contest, "
        + "or student of it";
    private static final String SAME_KEYS = "Throws `IllegalArgumentException` if both are the same";
    private static final String WHAT_OUT = "Throws `IllegalArgumentException` if what is out of range";
    private static final String NOTHING_CHANGES = "A call that throws an exception changes nothing.";
    private static final String FIRST_NAMED = "If several apply, the one that is named first in the throws clause is "
        + "thrown.";
    private static final String KEY = "`key`: 0 to 11";
    private static final String LETTER = "`letter`: 0 to 11";
    private static final String OTHER_KEY = "`other`: another one";

    private static final String NO_CONTEST_NOW = "Throws `IllegalStateException` if the draft is empty, there are no "
        + "students, or there were 6";
    private static final String OF_WHAT = "`what`: 0 the time of the text, 1 the ticks, 2 the score, 3 the rank, NONE for "
        + "1 to 3 without a result";

    /** Neither a letter nor a key. */
    private static final int[] OUT_OF_12 = {LOWEST, -12, -1, 12, 13, HIGHEST};
    /** In both there are the students 0 to 3. */
    private static final Scene[] WITH_STUDENTS = {Scene.SOME, Scene.FULL};

    private PromiseSentences() {
    }

    /** Calls that are refused whenever they come, between other calls: these answer as if those had not come. */
    private static void changesNothing(String name, int[]... refused) {
        School plain = new School();
        School mixed = new School();
        for (int step = 0; step < 120; step++) {
            int[] with = refused[step % refused.length];
            long want = mixed.answer(name, with);
            if (want > Calls.OTHER) {
                report(Calls.text(name, with) + " answered " + want + ", due is an exception");
            }
            long due = oneOfMany(plain, step);
            long got = oneOfMany(mixed, step);
            if (got != due) {
                report("the call " + step + " answered " + Calls.said(got) + " behind " + Calls.text(name, with)
                    + ", without it " + Calls.said(due));
            }
        }
    }

    /** A run of all kinds of calls, one a step: what was done and what is asked takes turns. */
    private static long oneOfMany(School x, int step) {
        int student = (step + step / 18) % 3;
        int a = step * 5 % 12;
        int b = (a + 1 + step % 11) % 12;
        if (step < 5) {
            return step % 2 == 0 ? x.answer("student") : x.answer("draft", step);
        }
        switch (step % 18) {
            case 0: return x.answer("swap", student, a, b);
            case 1: return x.answer("time", student);
            case 2: return x.answer("slips", student, 3, 0);
            case 3: return x.answer("lesson", student, step % 100);
            case 4: return x.answer("best", student);
            case 5: return x.answer("draft", a);
            case 6: return x.answer("carry", student, step / 18 % 2);
            case 7: return x.answer("pair", student, a, b);
            case 8: return x.answer("contest");
            case 9: return x.answer("result", step / 18 % 6, student, step);
            case 10: return x.answer("ranked", step / 18 % 6, 0);
            case 11: return x.answer("of", step / 18 % 6, student, step % 4);
            case 12: return x.answer("pressed", student);
            case 13: return x.answer("history", student, step % 4);
            case 14: return x.answer("keyOf", student, a);
            default: return x.answer("press", student, a, b);
        }
    }

    private static int[] row(int... numbers) {
        return numbers;
    }

    // ---- 1: a new object

    @Sentence(promise = 1, value = "No students, no contests.")
    static void aNewObjectHasNoStudents() {
        School x = new School();
        for (int number = -1; number <= 5; number++) {
            due(x, INDEX, "pressed", number);
            due(x, INDEX, "carry", number, 0);
        }
        due(x, 0, "student");
    }

    @Sentence(promise = 1, value = "No students, no contests.")
    static void aNewObjectHasNoContests() {
        School x = new School().students(1);
        for (int number = -1; number <= 6; number++) {
            due(x, INDEX, "ranked", number, 0);
            due(x, INDEX, "of", number, 0, 0);
            due(x, INDEX, "result", number, 0, 1);
        }
        x.drafts(0);
        due(x, 0, "contest");
    }

    // ---- 2: student

    @Sentence(promise = 2, value = "Returns its number.")
    static void studentsAreNumberedInTurn() {
        School x = new School();
        for (int number = 0; number < 5; number++) {
            due(x, number, "student");
        }
    }

    @Sentence(promise = 2, value = "Throws `IllegalStateException` if there are 5")
    static void aSixthStudent() {
        due(new School().students(4), 4, "student");
        due(new School().students(5), STATE, "student");
        refuses(Scene.FULL, STATE, "student");
    }

    @Sentence(promise = 2, value = NOTHING_CHANGES)
    static void aRefusedStudentChangesNothing() {
        School x = new School().students(5).types(4, 3).slips(4, 3, 1);
        for (int i = 0; i < 7; i++) {
            due(x, STATE, "student");
        }
        due(x, 2, "pressed", 4);
        due(x, 1, "slips", 4, 0, 3);
        due(x, 0, "pressed", 0);
        due(x, INDEX, "pressed", 5);
        due(x.contestOf(0), 2, "of", 0, 4, 0);
        due(x, INDEX, "of", 0, 5, 0);
    }

    // ---- 3: carry

    @Sentence(promise = 3, value = "Tells how slips are carried from now on.")
    static void toTellTheWayCarriesNothing() {
        School x = new School().students(1).slips(0, 2, 3).swaps(0, 2, 9);
        due(x, 0, "carry", 0, 1);
        due(x, 3, "slips", 0, 0, 2);
        due(x, 0, "slips", 0, 0, 9);
        x.swaps(0, 2, 11);
        due(x, 0, "slips", 0, 0, 2);
        due(x, 3, "slips", 0, 0, 11);
        due(x, 1, "carry", 0, 0);
        due(x, 3, "slips", 0, 0, 11);
        x.swaps(0, 11, 0);
        due(x, 3, "slips", 0, 0, 11);
        due(x, 0, "slips", 0, 0, 0);
    }

    @Sentence(promise = 3, value = "`way`: BY_KEY or BY_LETTER")
    static void bothWaysAreTaken() {
        School x = new School().students(1);
        due(x, 0, "carry", 0, Homekeys.BY_LETTER);
        due(x, 1, "carry", 0, Homekeys.BY_KEY);
        due(x, ARGUMENT, "carry", 0, Homekeys.BY_KEY - 1);
        due(x, ARGUMENT, "carry", 0, Homekeys.BY_LETTER + 1);
    }

    @Sentence(promise = 3, value = "Returns the way before.")
    static void theWayBefore() {
        School x = new School().students(2);
        due(x, 0, "carry", 0, 0);
        due(x, 0, "carry", 0, 1);
        due(x, 1, "carry", 0, 1);
        due(x, 0, "carry", 1, 0);
        due(x, 1, "carry", 0, 0);
        due(x, 0, "carry", 0, 0);
    }

    @Sentence(promise = 3, value = NO_STUDENT)
    static void carryOfNoStudent() {
        refusesStrangers("carry", 0);
        refusesStrangers("carry", 1);
    }

    @Sentence(promise = 3, value = "Throws `IllegalArgumentException` if way is out of range")
    static void carryOfNoWay() {
        for (int way : row(LOWEST, -1, 2, 3, HIGHEST)) {
            refuses(Scene.SOME, ARGUMENT, "carry", 0, way);
            refuses(Scene.SOME, ARGUMENT, "carry", 1, way);
            refuses(Scene.FULL, ARGUMENT, "carry", 4, way);
        }
    }

    @Sentence(promise = 3, value = NOTHING_CHANGES)
    static void aRefusedCarryChangesNothing() {
        changesNothing("carry", row(0, 2), row(5, 1), row(1, -1), row(-1, 0), row(2, HIGHEST));
    }

    @Sentence(promise = 3, value = FIRST_NAMED)
    static void carryOfNoStudentAndNoWay() {
        refusesStrangers("carry", -1);
        refusesStrangers("carry", 2);
    }

    // ---- 4: swap

    @Sentence(promise = 4, value = KEY)
    static void swapOfTheFirstAndOfTheLastKey() {
        School x = new School().students(1);
        due(x, 0, "swap", 0, 0, 5);
        due(x, 5, "letterOn", 0, 0);
        due(x, 0, "letterOn", 0, 5);
        due(x, 0, "swap", 0, 11, 6);
        due(x, 6, "letterOn", 0, 11);
        due(x, 11, "letterOn", 0, 6);
    }

    @Sentence(promise = 4, value = OTHER_KEY)
    static void swapWithEachOtherKey() {
        for (int key = 0; key < 12; key++) {
            for (int other = 0; other < 12; other++) {
                School x = new School().students(1);
                due(x, key == other ? ARGUMENT : 0, "swap", 0, key, other);
                due(x, other, "letterOn", 0, key);
                due(x, key, "letterOn", 0, other);
            }
        }
    }

    @Sentence(promise = 4, value = "Returns what that saves, perhaps below 0.")
    static void aSwapSavesAboveAndBelow0AndNothing() {
        School x = new School().students(2).types(0, 0, 6, 0);
        due(x, 10, "swap", 0, 6, 3);
        due(x, 6, "time", 0);
        due(x, 0, "swap", 0, 1, 2);
        due(x, -10, "swap", 0, 3, 6);
        due(x, 16, "time", 0);
        due(x, 0, "swap", 1, 3, 6);
    }

    @Sentence(promise = 4, value = NO_STUDENT_OR_KEYS)
    static void swapOfNoStudent() {
        refusesStrangers("swap", 0, 11);
    }

    @Sentence(promise = 4, value = NO_STUDENT_OR_KEYS)
    static void swapOfNoKey() {
        for (Scene scene : WITH_STUDENTS) {
            for (int out : OUT_OF_12) {
                refuses(scene, INDEX, "swap", 0, out, 0);
                refuses(scene, INDEX, "swap", 1, 11, out);
                refuses(scene, INDEX, "swap", 0, out, -2);
            }
        }
    }

    @Sentence(promise = 4, value = SAME_KEYS)
    static void swapOfAKeyWithItself() {
        for (Scene scene : WITH_STUDENTS) {
            for (int key = 0; key < 12; key++) {
                refuses(scene, ARGUMENT, "swap", key % 2, key, key);
            }
        }
    }

    @Sentence(promise = 4, value = NOTHING_CHANGES)
    static void aRefusedSwapChangesNothing() {
        changesNothing("swap", row(0, 3, 3), row(1, 12, 4), row(1, 4, 12), row(2, -1, 0), row(0, 0, -1), row(5, 1, 2),
            row(-1, 1, 2));
    }

    @Sentence(promise = 4, value = FIRST_NAMED)
    static void swapOfNoStudentOrNoKeyWithItself() {
        refusesStrangers("swap", 4, 4);
        for (int out : OUT_OF_12) {
            refuses(Scene.SOME, INDEX, "swap", 1, out, out);
        }
    }

    // ---- 5: keyOf

    @Sentence(promise = 5, value = LETTER)
    static void keyOfTheFirstAndOfTheLastLetter() {
        School x = new School().students(1);
        due(x, 0, "keyOf", 0, 0);
        due(x, 11, "keyOf", 0, 11);
        x.swaps(0, 11, 5);
        due(x, 5, "keyOf", 0, 11);
        due(x, 11, "keyOf", 0, 5);
    }

    @Sentence(promise = 5, value = "Throws `IndexOutOfBoundsException` if there is no such student or letter")
    static void keyOfNoStudent() {
        refusesStrangers("keyOf", 0);
    }

    @Sentence(promise = 5, value = "Throws `IndexOutOfBoundsException` if there is no such student or letter")
    static void keyOfNoLetter() {
        for (Scene scene : WITH_STUDENTS) {
            for (int out : OUT_OF_12) {
                refuses(scene, INDEX, "keyOf", 0, out);
            }
        }
    }

    @Sentence(promise = 5, value = NOTHING_CHANGES)
    static void aRefusedKeyOfChangesNothing() {
        changesNothing("keyOf", row(0, 12), row(1, -1), row(5, 0), row(-1, 0));
    }

    // ---- 6: letterOn

    @Sentence(promise = 6, value = KEY)
    static void letterOnTheFirstAndOnTheLastKey() {
        School x = new School().students(1);
        due(x, 0, "letterOn", 0, 0);
        due(x, 11, "letterOn", 0, 11);
        x.swaps(0, 11, 5).swaps(0, 5, 0);
        due(x, 11, "letterOn", 0, 0);
        due(x, 0, "letterOn", 0, 5);
        due(x, 5, "letterOn", 0, 11);
    }

    @Sentence(promise = 6, value = "Throws `IndexOutOfBoundsException` if there is no such student or key")
    static void letterOnAKeyOfNoStudent() {
        refusesStrangers("letterOn", 0);
    }

    @Sentence(promise = 6, value = "Throws `IndexOutOfBoundsException` if there is no such student or key")
    static void letterOnNoKey() {
        for (Scene scene : WITH_STUDENTS) {
            for (int out : OUT_OF_12) {
                refuses(scene, INDEX, "letterOn", 0, out);
            }
        }
    }

    @Sentence(promise = 6, value = NOTHING_CHANGES)
    static void aRefusedLetterOnChangesNothing() {
        changesNothing("letterOn", row(0, 12), row(1, -1), row(5, 0), row(-1, 0));
    }

    // ---- 7: press

    @Sentence(promise = 7, value = "`letter`: the one that is to be typed")
    static void theLetterToTypeCountsAndNotThePressedOne() {
        School x = new School().students(1);
        due(x, 1, "press", 0, 3, 7);
        due(x, 1, "press", 0, 0, 11);
        due(x, 3, "history", 0, 0);
        due(x, 0, "history", 0, 1);
        due(x, 1, "slips", 0, 0, 3);
        due(x, 1, "slips", 0, 0, 0);
        due(x, 0, "slips", 0, 0, 7);
        due(x, 0, "slips", 0, 0, 11);
        due(x, 1, "pair", 0, 3, 0);
    }

    @Sentence(promise = 7, value = KEY)
    static void theFirstAndTheLastKeyArePressed() {
        School x = new School().students(1);
        due(x, 0, "press", 0, 0, 0);
        due(x, 0, "press", 0, 11, 11);
        due(x, 1, "press", 0, 0, 11);
        due(x, 1, "press", 0, 11, 0);
        due(x, 4, "pressed", 0);
    }

    @Sentence(promise = 7, value = "Returns whether it is a slip.")
    static void aSlipOrNone() {
        School x = new School().students(2).swaps(0, 5, 6);
        due(x, 0, "press", 0, 5, 6);
        due(x, 1, "press", 0, 5, 5);
        due(x, 0, "press", 0, 6, 5);
        due(x, 1, "press", 0, 6, 6);
        due(x, 0, "press", 1, 5, 5);
        due(x, 1, "press", 1, 5, 6);
        due(x, 1, "press", 0, 5, 11);
    }

    @Sentence(promise = 7, value = "Throws `IndexOutOfBoundsException` if there is no such student, letter or key")
    static void pressOfNoStudent() {
        refusesStrangers("press", 0, 0);
        refusesStrangers("press", 0, 1);
    }

    @Sentence(promise = 7, value = "Throws `IndexOutOfBoundsException` if there is no such student, letter or key")
    static void pressOfNoLetter() {
        for (Scene scene : WITH_STUDENTS) {
            for (int out : OUT_OF_12) {
                refuses(scene, INDEX, "press", 0, out, 0);
                refuses(scene, INDEX, "press", 1, out, out);
            }
        }
    }

    @Sentence(promise = 7, value = "Throws `IndexOutOfBoundsException` if there is no such student, letter or key")
    static void pressOfNoKey() {
        for (Scene scene : WITH_STUDENTS) {
            for (int out : OUT_OF_12) {
                refuses(scene, INDEX, "press", 0, 0, out);
                refuses(scene, INDEX, "press", 3, 11, out);
            }
        }
    }

    @Sentence(promise = 7, value = NOTHING_CHANGES)
    static void aRefusedPressChangesNothing() {
        changesNothing("press", row(0, 12, 0), row(1, 0, 12), row(2, -1, 4), row(0, 4, -1), row(5, 0, 1), row(-1, 0, 1));
    }

    @Sentence(promise = 7, value = NOTHING_CHANGES)
    static void aRefusedPressIsNotAheadOfASlip() {
        School x = new School().students(1);
        due(x, INDEX, "press", 0, 5, 12);
        x.slips(0, 3, 1);
        due(x, 0, "pair", 0, 5, 3);
        due(x, INDEX, "press", 0, 5, -1);
        x.slips(0, 4, 1);
        due(x, 0, "pair", 0, 5, 4);
        due(x, 1, "pair", 0, 3, 4);
    }

    // ---- 8: slips

    @Sentence(promise = 8, value = "`what`: 0 by a key, 1 by a finger, 2 by a hand, 0 left, 1 right, 3 all")
    static void slipsByEachOfTheFour() {
        School x = new School().students(1).slips(0, 0, 1).slips(0, 6, 2).slips(0, 2, 4).slips(0, 5, 8).slips(0, 11, 16);
        due(x, 1, "slips", 0, 0, 0);
        due(x, 16, "slips", 0, 0, 11);
        due(x, 1 + 2, "slips", 0, 1, 0);
        due(x, 8 + 16, "slips", 0, 1, 5);
        due(x, 1 + 2 + 4, "slips", 0, 2, 0);
        due(x, 8 + 16, "slips", 0, 2, 1);
        due(x, 31, "slips", 0, 3, 0);
    }

    @Sentence(promise = 8, value = "`which`: the key, finger or hand; 0 for all")
    static void slipsOfTheFirstAndOfTheLastOfEach() {
        School x = new School().students(1);
        int[] last = {11, 5, 1, 0};
        for (int what = 0; what < 4; what++) {
            for (int which = 0; which <= last[what]; which++) {
                due(x, 0, "slips", 0, what, which);
            }
            due(x, ARGUMENT, "slips", 0, what, last[what] + 1);
            due(x, ARGUMENT, "slips", 0, what, -1);
        }
    }

    @Sentence(promise = 8, value = "Returns how often.")
    static void slipsCountOnBehindTheHistory() {
        School x = new School().students(2).types(0, 7);
        due(x, 0, "slips", 0, 3, 0);
        for (int i = 1; i <= 40; i++) {
            x.answer("press", 0, 7, 8);
            due(x, i, "slips", 0, 0, 7);
        }
        x.types(0, new int[31]);
        due(x, 40, "slips", 0, 0, 7);
        due(x, 40, "slips", 0, 3, 0);
        due(x, 0, "slips", 1, 3, 0);
    }

    @Sentence(promise = 8, value = NO_STUDENT)
    static void slipsOfNoStudent() {
        refusesStrangers("slips", 0, 11);
        refusesStrangers("slips", 1, 5);
        refusesStrangers("slips", 2, 1);
        refusesStrangers("slips", 3, 0);
    }

    @Sentence(promise = 8, value = "Throws `IllegalArgumentException` if what is out of range, or which is not one of "
        + "these")
    static void slipsByNothing() {
        for (int what : row(LOWEST, -1, 4, 5, HIGHEST)) {
            refuses(Scene.SOME, ARGUMENT, "slips", 0, what, 0);
            refuses(Scene.FULL, ARGUMENT, "slips", 4, what, 0);
            refuses(Scene.FULL, ARGUMENT, "slips", 0, what, -1);
        }
    }

    @Sentence(promise = 8, value = "Throws `IllegalArgumentException` if what is out of range, or which is not one of "
        + "these")
    static void slipsOfNoneOfThese() {
        int[] ends = {12, 6, 2, 1};
        for (int what = 0; what < 4; what++) {
            for (int which : row(LOWEST, -1, ends[what], ends[what] + 1, 12, HIGHEST)) {
                refuses(Scene.SOME, ARGUMENT, "slips", 0, what, which);
                refuses(Scene.FULL, ARGUMENT, "slips", 4, what, which);
            }
        }
    }

    @Sentence(promise = 8, value = NOTHING_CHANGES)
    static void refusedSlipsChangeNothing() {
        changesNothing("slips", row(0, 4, 0), row(1, -1, 0), row(2, 0, 12), row(0, 1, 6), row(1, 2, 2), row(0, 3, 1),
            row(5, 0, 0), row(-1, 3, 0));
    }

    @Sentence(promise = 8, value = FIRST_NAMED)
    static void slipsOfNoStudentByNothing() {
        refusesStrangers("slips", 4, 0);
        refusesStrangers("slips", -1, 0);
        refusesStrangers("slips", 0, 12);
        refusesStrangers("slips", 3, 1);
    }

    // ---- 9: pair

    @Sentence(promise = 9, value = "`first`: the letter ahead")
    static void theLetterAheadComesFirst() {
        School x = new School().students(1).types(0, 11).slips(0, 0, 1);
        due(x, 1, "pair", 0, 11, 0);
        due(x, 0, "pair", 0, 0, 11);
        due(x, INDEX, "pair", 0, NONE, 11);
        due(x, INDEX, "pair", 0, 12, 0);
    }

    @Sentence(promise = 9, value = LETTER)
    static void pairsOfTheFirstAndOfTheLastLetter() {
        School x = new School().students(1).slips(0, 0, 2).slips(0, 11, 2).slips(0, 0, 1);
        due(x, 1, "pair", 0, 0, 0);
        due(x, 1, "pair", 0, 0, 11);
        due(x, 1, "pair", 0, 11, 11);
        due(x, 1, "pair", 0, 11, 0);
        due(x, 0, "pair", 0, 1, 0);
        due(x, 0, "pair", 0, 10, 11);
    }

    @Sentence(promise = 9, value = "Returns how often.")
    static void pairsCountOnBehindTheHistory() {
        School x = new School().students(2).slips(0, 6, 41).types(0, new int[31]);
        due(x, 40, "pair", 0, 6, 6);
        due(x, 0, "pair", 0, 6, 0);
        due(x, 0, "pair", 1, 6, 6);
    }

    @Sentence(promise = 9, value = "Throws `IndexOutOfBoundsException` if there is no such student or letter, of either")
    static void pairOfNoStudent() {
        refusesStrangers("pair", 0, 0);
    }

    @Sentence(promise = 9, value = "Throws `IndexOutOfBoundsException` if there is no such student or letter, of either")
    static void pairOfNoLetter() {
        for (Scene scene : WITH_STUDENTS) {
            for (int out : OUT_OF_12) {
                refuses(scene, INDEX, "pair", 0, out, 0);
                refuses(scene, INDEX, "pair", 0, out, 11);
                refuses(scene, INDEX, "pair", 0, 0, out);
                refuses(scene, INDEX, "pair", 0, 11, out);
                refuses(scene, INDEX, "pair", 0, out, out);
            }
            // The place in a row of 144 would be one of it, of other letters.
            refuses(scene, INDEX, "pair", 0, 1, -12);
            refuses(scene, INDEX, "pair", 0, -1, 12);
            refuses(scene, INDEX, "pair", 0, 5, 23);
        }
    }

    @Sentence(promise = 9, value = NOTHING_CHANGES)
    static void aRefusedPairChangesNothing() {
        changesNothing("pair", row(0, 12, 0), row(1, 0, 12), row(2, -1, 4), row(0, 4, -1), row(5, 0, 1), row(-1, 0, 1));
    }

    // ---- 10: pressed

    @Sentence(promise = 10, value = "Returns how often a student pressed a key.")
    static void pressedCountsRightAndWrongBehindTheHistory() {
        School x = new School().students(2);
        due(x, 0, "pressed", 0);
        for (int i = 1; i <= 62; i++) {
            x.answer("press", 0, 3, i % 2 == 0 ? 3 : 4);
            due(x, i, "pressed", 0);
        }
        due(x, 0, "pressed", 1);
    }

    @Sentence(promise = 10, value = NO_STUDENT)
    static void pressedOfNoStudent() {
        refusesStrangers("pressed");
    }

    @Sentence(promise = 10, value = NOTHING_CHANGES)
    static void aRefusedPressedChangesNothing() {
        changesNothing("pressed", row(5), row(-1), row(LOWEST), row(HIGHEST));
    }

    // ---- 11: history

    @Sentence(promise = 11, value = "`place`: from 0, the oldest one that is kept")
    static void theOldestOneIsAt0() {
        School x = new School().students(1).types(0, 7);
        due(x, 7, "history", 0, 0);
        x.types(0, 3);
        due(x, 7, "history", 0, 0);
        x.repeats(0, 0, 28);
        due(x, 7, "history", 0, 0);
        x.types(0, 1);
        due(x, 3, "history", 0, 0);
        x.types(0, 1);
        due(x, 0, "history", 0, 0);
        due(x, INDEX, "history", 0, -1);
    }

    @Sentence(promise = 11, value = "Returns the letter; NONE if there are not so many.")
    static void noneBehindTheLastLetter() {
        School x = new School().students(1);
        due(x, NONE, "history", 0, 0);
        for (int typed = 1; typed <= 32; typed++) {
            int last = Math.min(typed, 30) - 1;
            x.answer("press", 0, typed % 12, 0);
            due(x, typed % 12, "history", 0, last);
            due(x, NONE, "history", 0, last + 1);
        }
        due(x, NONE, "history", 0, 31);
        due(x, NONE, "history", 0, HIGHEST);
    }

    @Sentence(promise = 11, value = "Throws `IndexOutOfBoundsException` if there is no such student, or place is below 0")
    static void historyOfNoStudent() {
        refusesStrangers("history", 0);
        refusesStrangers("history", 30);
    }

    @Sentence(promise = 11, value = "Throws `IndexOutOfBoundsException` if there is no such student, or place is below 0")
    static void historyBelow0() {
        for (int below : row(-1, -2, -30, LOWEST)) {
            refuses(Scene.SOME, INDEX, "history", 0, below);
            refuses(Scene.SOME, INDEX, "history", 3, below);
            refuses(Scene.FULL, INDEX, "history", 0, below);
        }
    }

    @Sentence(promise = 11, value = NOTHING_CHANGES)
    static void aRefusedHistoryChangesNothing() {
        changesNothing("history", row(0, -1), row(1, LOWEST), row(5, 0), row(-1, 0));
    }

    // ---- 12 and 13: time, timeAnew

    @Sentence(promise = 12, value = "Returns the time of the history by the layout.")
    static void timeByTheLayoutOfNow() {
        School x = new School().students(2);
        due(x, 0, "time", 0);
        x.types(0, 0, 6, 6, 11);
        due(x, 2 + 7 + 3 + 2, "time", 0);
        x.swaps(0, 6, 10);
        due(x, 2 + 2 + 3 + 4, "time", 0);
        x.answer("press", 0, 11, 0);
        due(x, 2 + 2 + 3 + 4 + 3, "time", 0);
        due(x, 0, "time", 1);
    }

    @Sentence(promise = 12, value = NO_STUDENT)
    static void timeOfNoStudent() {
        refusesStrangers("time");
    }

    @Sentence(promise = 12, value = NOTHING_CHANGES)
    static void aRefusedTimeChangesNothing() {
        changesNothing("time", row(5), row(-1), row(LOWEST), row(HIGHEST));
    }

    @Sentence(promise = 13, value = "Returns the same, by counting how often each letter follows each one.")
    static void timeAnewIsTheSame() {
        School x = new School().students(3).types(2, 5, 5);
        for (int i = 0; i < 64; i++) {
            due(x, x.answer("time", 0), "timeAnew", 0);
            if (i % 8 == 7) {
                x.swaps(0, i % 12, (i + 5) % 12);
                due(x, x.answer("time", 0), "timeAnew", 0);
                due(x, 2 + 3, "timeAnew", 2);
                due(x, 0, "timeAnew", 1);
            }
            x.answer("press", 0, i * i % 12, i % 12);
        }
    }

    @Sentence(promise = 13, value = NO_STUDENT)
    static void timeAnewOfNoStudent() {
        refusesStrangers("timeAnew");
    }

    @Sentence(promise = 13, value = NOTHING_CHANGES)
    static void aRefusedTimeAnewChangesNothing() {
        changesNothing("timeAnew", row(5), row(-1), row(LOWEST), row(HIGHEST));
    }

    // ---- 14: lesson

    @Sentence(promise = 14, value = "`place`: from 0 to 99")
    static void theFirstAndTheLastPlaceOfALesson() {
        School x = new School().students(1).slips(0, 9, 3).slips(0, 4, 2).slips(0, 7, 1);
        due(x, 9, "lesson", 0, 0);
        due(x, 4, "lesson", 0, 97);
        due(x, 7, "lesson", 0, 98);
        due(x, 9, "lesson", 0, 99);
        due(x, INDEX, "lesson", 0, -1);
        due(x, INDEX, "lesson", 0, 100);
    }

    @Sentence(promise = 14, value = "Throws `IndexOutOfBoundsException` if there is no such student or place")
    static void lessonOfNoStudent() {
        refusesStrangers("lesson", 0);
        refusesStrangers("lesson", 99);
    }

    @Sentence(promise = 14, value = "Throws `IndexOutOfBoundsException` if there is no such student or place")
    static void lessonOfNoPlace() {
        for (Scene scene : WITH_STUDENTS) {
            for (int place : row(LOWEST, -3, -1, 100, 101, HIGHEST)) {
                refuses(scene, INDEX, "lesson", 0, place);
            }
        }
    }

    @Sentence(promise = 14, value = NOTHING_CHANGES)
    static void aRefusedLessonChangesNothing() {
        changesNothing("lesson", row(0, 100), row(1, -1), row(5, 0), row(-1, 0));
    }

    // ---- 15: saves

    @Sentence(promise = 15, value = KEY)
    static void savesOfTheFirstAndOfTheLastKey() {
        School x = new School().students(1).types(0, 0, 6);
        due(x, 5, "saves", 0, 0, 11);
        due(x, 5, "saves", 0, 11, 0);
        due(x, 3, "saves", 0, 0, 1);
        due(x, INDEX, "saves", 0, -1, 0);
        due(x, INDEX, "saves", 0, 12, 0);
    }

    @Sentence(promise = 15, value = OTHER_KEY)
    static void savesWithEachOtherKey() {
        School x = new School().students(1).types(0, 0, 6);
        int[] savedByKey0 = {0, 3, 3, 5, 5, 5, 0, 3, 3, 5, 5, 5};
        for (int other = 1; other < 12; other++) {
            due(x, savedByKey0[other], "saves", 0, 0, other);
            due(x, savedByKey0[other], "saves", 0, other, 0);
        }
        due(x, ARGUMENT, "saves", 0, 0, 0);
        due(x, ARGUMENT, "saves", 0, 11, 11);
    }

    @Sentence(promise = 15, value = "Returns how much, perhaps below 0.")
    static void savesAboveAndBelow0AndNothing() {
        School x = new School().students(2).types(0, 0, 6, 0, 3);
        due(x, 10, "saves", 0, 6, 9);
        due(x, 0, "saves", 0, 4, 5);
        due(x, -2, "saves", 0, 3, 1);
        due(x, 0, "saves", 1, 6, 9);
        due(x.swaps(0, 6, 9), -10, "saves", 0, 6, 9);
        due(x, 9, "keyOf", 0, 6);
    }

    @Sentence(promise = 15, value = NO_STUDENT_OR_KEYS)
    static void savesOfNoStudent() {
        refusesStrangers("saves", 0, 11);
    }

    @Sentence(promise = 15, value = NO_STUDENT_OR_KEYS)
    static void savesOfNoKey() {
        for (Scene scene : WITH_STUDENTS) {
            for (int out : OUT_OF_12) {
                refuses(scene, INDEX, "saves", 0, out, 0);
                refuses(scene, INDEX, "saves", 1, 11, out);
                refuses(scene, INDEX, "saves", 0, out, -2);
            }
        }
    }

    @Sentence(promise = 15, value = SAME_KEYS)
    static void savesOfAKeyWithItself() {
        for (Scene scene : WITH_STUDENTS) {
            for (int key = 0; key < 12; key++) {
                refuses(scene, ARGUMENT, "saves", key % 2, key, key);
            }
        }
    }

    @Sentence(promise = 15, value = NOTHING_CHANGES)
    static void aRefusedSavesChangesNothing() {
        changesNothing("saves", row(0, 3, 3), row(1, 12, 4), row(1, 4, 12), row(2, -1, 0), row(0, 0, -1), row(5, 1, 2),
            row(-1, 1, 2));
    }

    @Sentence(promise = 15, value = FIRST_NAMED)
    static void savesOfNoStudentOrNoKeyWithItself() {
        refusesStrangers("saves", 4, 4);
        for (int out : OUT_OF_12) {
            refuses(Scene.SOME, INDEX, "saves", 1, out, out);
        }
    }

    // ---- 16: best

    @Sentence(promise = 16, value = "Returns 12 times the lower key, and the other one, together; NONE if there is none.")
    static void theBestSwapAsOneNumber() {
        due(new School().students(1), NONE, "best", 0);
        due(new School().students(1).types(0, 6, 7, 1, 11, 0, 6, 3, 7), 12 * 0 + 1, "best", 0);
        due(new School().students(1).types(0, 0, 7, 9, 11, 5), 12 * 0 + 11, "best", 0);
        due(new School().students(1).types(0, 1, 10, 0, 7, 11), 12 * 7 + 11, "best", 0);
        School x = new School().students(1).types(0, 11, 9, 0, 8, 1);
        due(x, 12 * 8 + 11, "best", 0);
        due(x, 8, "keyOf", 0, 8);
        x.swaps(0, 11, 8);
        due(x, 2 + 4 * 2, "time", 0);
        due(x, NONE, "best", 0);
    }

    @Sentence(promise = 16, value = NO_STUDENT)
    static void bestOfNoStudent() {
        refusesStrangers("best");
    }

    @Sentence(promise = 16, value = NOTHING_CHANGES)
    static void aRefusedBestChangesNothing() {
        changesNothing("best", row(5), row(-1), row(LOWEST), row(HIGHEST));
    }

    // ---- 17 and 18: draft, clear

    @Sentence(promise = 17, value = "Puts a letter behind the draft.")
    static void aLetterComesBehindTheOthers() {
        School x = new School().students(1).contestOf(0, 6, 3).contestOf(6, 3, 0);
        due(x, 2 + 7 + 2, "of", 0, 0, 0);
        due(x, 2 + 2 + 2, "of", 1, 0, 0);
    }

    @Sentence(promise = 17, value = LETTER)
    static void theFirstAndTheLastLetterAreDrafted() {
        School x = new School().students(1);
        due(x, 1, "draft", 0);
        due(x, 2, "draft", 11);
        due(x, INDEX, "draft", -1);
        due(x, INDEX, "draft", 12);
        x.drafts(5);
        x.answer("contest");
        due(x, 2 + 2 + 7, "of", 0, 0, 0);
    }

    @Sentence(promise = 17, value = "Returns how many it has then.")
    static void theDraftGrowsTo24() {
        School x = new School().students(1);
        for (int letters = 1; letters <= 24; letters++) {
            due(x, letters, "draft", 11);
        }
        x.answer("clear");
        due(x, 1, "draft", 11);
        x.answer("contest");
        due(x, 1, "draft", 11);
    }

    @Sentence(promise = 17, value = "Throws `IndexOutOfBoundsException` if there is no such letter")
    static void draftOfNoLetter() {
        for (Scene scene : Scene.EACH) {
            for (int out : OUT_OF_12) {
                refuses(scene, INDEX, "draft", out);
            }
        }
    }

    @Sentence(promise = 17, value = "Throws `IllegalStateException` if it has 24")
    static void draftOfA25thLetter() {
        School x = new School().drafts(0, 1, 2, 3, 4, 5, 6, 7, 8, 9, 10, 11, 0, 1, 2, 3, 4, 5, 6, 7, 8, 9, 10);
        due(x, 24, "draft", 11);
        due(x, STATE, "draft", 11);
        for (int letter = 0; letter < 12; letter++) {
            refuses(Scene.FULL_DRAFT, STATE, "draft", letter);
        }
        refuses(Scene.FULL, STATE, "draft", 0);
    }

    @Sentence(promise = 17, value = NOTHING_CHANGES)
    static void aRefusedDraftChangesNothing() {
        changesNothing("draft", row(12), row(-1), row(LOWEST), row(HIGHEST));
        School x = Scene.FULL_DRAFT.played();
        for (int letter = -1; letter <= 12; letter++) {
            due(x, letter < 0 || letter > 11 ? INDEX : STATE, "draft", letter);
        }
        due(x, 0, "contest");
        due(x, 2 + 23 * 7, "of", 0, 0, 0);
        due(x, 1, "draft", 0);
    }

    @Sentence(promise = 17, value = FIRST_NAMED)
    static void draftOfNoLetterBehind24() {
        for (int out : OUT_OF_12) {
            refuses(Scene.FULL_DRAFT, INDEX, "draft", out);
            refuses(Scene.FULL, INDEX, "draft", out);
        }
    }

    @Sentence(promise = 18, value = "Empties the draft; returns how many letters it had.")
    static void clearOfAnEmptyAndOfAFullDraft() {
        School x = new School().students(1);
        due(x, 0, "clear");
        due(x, 0, "clear");
        due(x.drafts(6), 1, "clear");
        due(x, 0, "clear");
        due(x, STATE, "contest");
        for (int letters = 0; letters < 25; letters++) {
            x.drafts(6);
        }
        due(x, 24, "clear");
        due(x, 0, "clear");
        due(x.contestOf(0, 0), 2 + 3, "of", 0, 0, 0);
        due(x, 0, "clear");
    }

    // ---- 19: contest

    @Sentence(promise = 19, value = "Begins a contest of the draft, which is empty then.")
    static void theDraftIsEmptyBehindAContest() {
        School x = new School().students(1).drafts(0, 6);
        due(x, 0, "contest");
        due(x, 0, "clear");
        due(x, STATE, "contest");
        due(x, 1, "draft", 3);
        due(x, 1, "contest");
        due(x, 2, "of", 1, 0, 0);
        due(x, 2 + 7, "of", 0, 0, 0);
    }

    @Sentence(promise = 19, value = "Returns its number.")
    static void contestsAreNumberedInTurn() {
        School x = new School().students(1);
        for (int number = 0; number < 6; number++) {
            due(x.drafts(0), number, "contest");
        }
    }

    @Sentence(promise = 19, value = NO_CONTEST_NOW)
    static void contestOfAnEmptyDraft() {
        due(new School().students(1), STATE, "contest");
        due(new School().students(1).contestOf(0), STATE, "contest");
        School x = new School().students(1).drafts(0);
        x.answer("clear");
        due(x, STATE, "contest");
        due(x.drafts(0), 0, "contest");
        refuses(Scene.NEW, STATE, "contest");
    }

    @Sentence(promise = 19, value = NO_CONTEST_NOW)
    static void contestOfNoStudents() {
        refuses(Scene.NO_STUDENTS, STATE, "contest");
        School x = new School().drafts(0, 6);
        due(x, STATE, "contest");
        due(x.students(1), 0, "contest");
        due(x, 2 + 7, "of", 0, 0, 0);
    }

    @Sentence(promise = 19, value = NO_CONTEST_NOW)
    static void aSeventhContest() {
        refuses(Scene.SIX_CONTESTS, STATE, "contest");
        refuses(Scene.FULL, STATE, "contest");
        School x = new School().students(1);
        for (int number = 0; number < 5; number++) {
            x.contestOf(number);
        }
        due(x.drafts(0), 5, "contest");
        due(x.drafts(0, 6, 3), STATE, "contest");
        due(x, 3, "clear");
    }

    @Sentence(promise = 19, value = NOTHING_CHANGES)
    static void aRefusedContestChangesNothing() {
        School x = new School();
        due(x, STATE, "contest");
        x.drafts(0, 6);
        due(x, STATE, "contest");
        due(x, 3, "draft", 3);
        due(x, STATE, "contest");
        due(x, 0, "student");
        due(x, 0, "contest");
        due(x, 2 + 7 + 2, "of", 0, 0, 0);
        for (int i = 0; i < 6; i++) {
            due(x, STATE, "contest");
        }
        for (int number = 1; number < 6; number++) {
            due(x.drafts(0), number, "contest");
        }
        x.drafts(0, 0);
        due(x, STATE, "contest");
        due(x, STATE, "contest");
        due(x, 3, "draft", 0);
        due(x, 2, "of", 5, 0, 0);
        due(x, 2 + 7 + 2, "of", 0, 0, 0);
    }

    // ---- 20: result

    @Sentence(promise = 20, value = "`ticks`: 1 to 99999")
    static void theLeastAndTheMostTicks() {
        School x = new School().students(2).contestOf(0, 0);
        due(x, ARGUMENT, "result", 0, 0, 0);
        due(x, 200, "result", 0, 0, 1);
        due(x, ARGUMENT, "result", 0, 1, 100000);
        due(x, 19999800, "result", 0, 1, 99999);
        due(x, 1, "of", 0, 0, 1);
        due(x, 99999, "of", 0, 1, 1);
    }

    @Sentence(promise = 20, value = NO_CONTEST_OR_STUDENT)
    static void resultOfNoContest() {
        for (Scene scene : Scene.EACH) {
            for (int contest : scene.contestsNotHeld()) {
                refuses(scene, INDEX, "result", contest, 0, 1);
            }
        }
    }

    @Sentence(promise = 20, value = NO_CONTEST_OR_STUDENT)
    static void resultOfNoStudentOfIt() {
        for (int student : row(LOWEST, -1, 3, 4, 5, HIGHEST)) {
            refuses(Scene.SOME, INDEX, "result", 0, student, 1);
        }
        for (int student : row(LOWEST, -1, 2, 3, 4, 5, 6, HIGHEST)) {
            refuses(Scene.FULL, INDEX, "result", 0, student, 99999);
        }
        for (int student : row(LOWEST, -1, 5, 6, HIGHEST)) {
            refuses(Scene.FULL, INDEX, "result", 4, student, 1);
        }
    }

    @Sentence(promise = 20, value = "Throws `IllegalArgumentException` if ticks is out of range")
    static void resultOfTicksOutOfRange() {
        for (int ticks : row(LOWEST, -99999, -1, 0, 100000, 100001, HIGHEST)) {
            refuses(Scene.SOME, ARGUMENT, "result", 0, 0, ticks);
            refuses(Scene.FULL, ARGUMENT, "result", 4, 4, ticks);
        }
    }

    @Sentence(promise = 20, value = "Throws `IllegalStateException` if it has a result")
    static void aSecondResult() {
        refuses(Scene.SOME, STATE, "result", 0, 1, 50);
        refuses(Scene.SOME, STATE, "result", 0, 1, 1);
        refuses(Scene.FULL, STATE, "result", 0, 0, 99999);
        refuses(Scene.FULL, STATE, "result", 0, 0, 1);
        for (int student = 0; student < 5; student++) {
            refuses(Scene.FULL, STATE, "result", 5, student, 20);
        }
        School x = Scene.FULL.played();
        for (int student = 0; student < 4; student++) {
            due(x, NONE, "of", 3, student, 2);
        }
        due(x, STATE, "result", 3, 4, 2);
        due(x, x.answer("result", 3, 0, 7), "of", 3, 0, 2);
    }

    @Sentence(promise = 20, value = NOTHING_CHANGES)
    static void aRefusedResultChangesNothing() {
        changesNothing("result", row(0, 0, 0), row(0, 1, 100000), row(6, 0, 1), row(-1, 0, 1), row(0, 5, 1),
            row(0, -1, 1), row(1, 0, -1));
    }

    @Sentence(promise = 20, value = FIRST_NAMED)
    static void resultOfNoContestOrStudentAndNoTicks() {
        for (int ticks : row(0, 100000)) {
            refuses(Scene.NEW, INDEX, "result", 0, 0, ticks);
            refuses(Scene.SOME, INDEX, "result", 1, 0, ticks);
            refuses(Scene.SOME, INDEX, "result", -1, 0, ticks);
            refuses(Scene.SOME, INDEX, "result", 0, 3, ticks);
            refuses(Scene.SOME, INDEX, "result", 0, -1, ticks);
            refuses(Scene.FULL, INDEX, "result", 6, 5, ticks);
        }
    }

    @Sentence(promise = 20, value = FIRST_NAMED)
    static void aSecondResultOfNoTicks() {
        for (int ticks : row(LOWEST, -1, 0, 100000, HIGHEST)) {
            refuses(Scene.SOME, ARGUMENT, "result", 0, 1, ticks);
            refuses(Scene.FULL, ARGUMENT, "result", 5, 4, ticks);
        }
    }

    // ---- 21: of

    @Sentence(promise = 21, value = OF_WHAT)
    static void ofAStudentWithoutAResult() {
        School x = new School().students(2).contestOf(0, 6);
        x.answer("result", 0, 1, 18);
        due(x, 9, "of", 0, 0, 0);
        for (int what = 1; what <= 3; what++) {
            due(x, NONE, "of", 0, 0, what);
        }
        due(x, ARGUMENT, "of", 0, 0, 4);
        due(x, ARGUMENT, "of", 0, 0, -1);
    }

    @Sentence(promise = 21, value = OF_WHAT)
    static void ofAStudentWithAResult() {
        School x = new School().students(2).contestOf(0, 6).contestOf(0);
        x.answer("result", 0, 1, 20);
        int[] told = {9, 20, 2222, 0};
        for (int what = 0; what <= 3; what++) {
            due(x, told[what], "of", 0, 1, what);
            due(x, what == 0 ? 2 : NONE, "of", 1, 1, what);
        }
        x.answer("result", 0, 0, 19);
        due(x, 1, "of", 0, 1, 3);
        due(x, 0, "of", 0, 0, 3);
    }

    @Sentence(promise = 21, value = NO_CONTEST_OR_STUDENT)
    static void ofNoContest() {
        for (Scene scene : Scene.EACH) {
            for (int contest : scene.contestsNotHeld()) {
                refuses(scene, INDEX, "of", contest, 0, 0);
            }
        }
    }

    @Sentence(promise = 21, value = NO_CONTEST_OR_STUDENT)
    static void ofNoStudentOfIt() {
        for (int what = 0; what <= 3; what++) {
            for (int student : row(LOWEST, -1, 3, 4, 5, HIGHEST)) {
                refuses(Scene.SOME, INDEX, "of", 0, student, what);
            }
            for (int student : row(LOWEST, -1, 2, 3, 4, 5, 6, HIGHEST)) {
                refuses(Scene.FULL, INDEX, "of", 0, student, what);
            }
            refuses(Scene.FULL, INDEX, "of", 5, 5, what);
        }
    }

    @Sentence(promise = 21, value = WHAT_OUT)
    static void ofWhatOutOfRange() {
        for (int what : row(LOWEST, -1, 4, 5, HIGHEST)) {
            refuses(Scene.SOME, ARGUMENT, "of", 0, 0, what);
            refuses(Scene.SOME, ARGUMENT, "of", 0, 1, what);
            refuses(Scene.FULL, ARGUMENT, "of", 5, 4, what);
        }
    }

    @Sentence(promise = 21, value = NOTHING_CHANGES)
    static void aRefusedOfChangesNothing() {
        changesNothing("of", row(0, 0, 4), row(0, 1, -1), row(6, 0, 0), row(-1, 0, 0), row(0, 5, 0), row(0, -1, 0));
    }

    @Sentence(promise = 21, value = FIRST_NAMED)
    static void ofNoContestOrStudentAndNothing() {
        for (int what : row(-1, 4)) {
            refuses(Scene.NEW, INDEX, "of", 0, 0, what);
            refuses(Scene.SOME, INDEX, "of", 1, 0, what);
            refuses(Scene.SOME, INDEX, "of", -1, 0, what);
            refuses(Scene.SOME, INDEX, "of", 0, 3, what);
            refuses(Scene.SOME, INDEX, "of", 0, -1, what);
            refuses(Scene.FULL, INDEX, "of", 6, 5, what);
        }
    }

    // ---- 22: ranked

    @Sentence(promise = 22, value = "`rank`: from 0")
    static void theFirstRankIs0() {
        School x = new School().students(1).contestOf(0);
        x.answer("result", 0, 0, 5);
        due(x, 0, "ranked", 0, 0);
        due(x, NONE, "ranked", 0, 1);
        due(x, INDEX, "ranked", 0, -1);
    }

    @Sentence(promise = 22, value = "Returns the student; NONE if nobody has it.")
    static void noneBehindTheLastRank() {
        School x = new School().students(5).contestOf(0);
        for (int results = 0; results <= 5; results++) {
            for (int rank = 0; rank < results; rank++) {
                due(x, 5 - results + rank, "ranked", 0, rank);
            }
            for (int rank : row(results, results + 1, 5, 6, HIGHEST)) {
                due(x, NONE, "ranked", 0, rank);
            }
            if (results < 5) {
                x.answer("result", 0, 4 - results, 9);
            }
        }
    }

    @Sentence(promise = 22, value = "Throws `IndexOutOfBoundsException` if there is no such contest, or rank is below 0")
    static void rankedOfNoContest() {
        for (Scene scene : Scene.EACH) {
            for (int contest : scene.contestsNotHeld()) {
                refuses(scene, INDEX, "ranked", contest, 0);
            }
        }
    }

    @Sentence(promise = 22, value = "Throws `IndexOutOfBoundsException` if there is no such contest, or rank is below 0")
    static void rankedBelow0() {
        for (int rank : row(LOWEST, -2, -1)) {
            refuses(Scene.SOME, INDEX, "ranked", 0, rank);
            refuses(Scene.FULL, INDEX, "ranked", 4, rank);
            refuses(Scene.FULL, INDEX, "ranked", 5, rank);
            refuses(Scene.FULL, INDEX, "ranked", 6, rank);
        }
    }

    @Sentence(promise = 22, value = NOTHING_CHANGES)
    static void aRefusedRankedChangesNothing() {
        changesNothing("ranked", row(0, -1), row(6, 0), row(-1, 0), row(1, LOWEST));
    }
}
