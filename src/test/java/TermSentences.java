/** The sentences of the document's terms, each by the promises in whose calls it shows. SentenceTest runs them. */
final class TermSentences extends Sentences {
    private static final String ROWS = "There are the keys 0 to 11, in two rows: the key k is in the column k modulo 6, "
        + "and in the row k / 6, rounded down.";
    private static final String STUDENTS = "Students are numbered from 0, at most 5; each has a layout: which key each "
        + "letter is on, at first the key with its number, and a way to carry slips, by key or by letter, by key at first.";
    private static final String STEPS = "From one key to the next one it takes: 3, if it is the same key; 5 and twice how "
        + "many rows they are apart, if it is the same finger; 4, if it is the same hand; 2 otherwise.";
    private static final String TEXT = "The time of a text of letters by a layout is 2 for its first letter and, for each "
        + "next one, what it takes from key to key; 0 for an empty text.";
    private static final String HISTORY = "The letters that a student was to type are the history, of which the last 30 "
        + "are kept.";
    private static final String COUNTED = "Slips are counted for the key on which the letter is then, and for the pair of "
        + "the letter that was to be typed ahead of it and this one (of the first one of all for none).";
    private static final String TO_SWAP = "To swap two keys of a layout is to let each have the other one's letter.";
    private static final String BY_LETTER = "If slips are carried by letter, the counts of the two keys are swapped, too "
        + "(so they are those of other fingers, perhaps); pairs are of letters, and never change.";
    private static final String LESSON = "A lesson is made for a student of the three letters that slip most: those whose "
        + "keys have the most slips, of the same the letters with lower numbers; in a lesson of some letters the place i, "
        + "from 0, has the first, second or third of these for i modulo 3 as 0, 1 or 2.";
    private static final String SAVES = "What a swap saves is the time of the student's history by the layout, less that "
        + "by the layout with it.";
    private static final String BEST = "The best swap is that which saves most, of the same that of the key with the lower "
        + "number, then that of the other one; there is none, if none saves more than 0.";
    private static final String DRAFT = "There is a draft of at most 24 letters, initially empty.";
    private static final String CONTEST = "A contest is of the draft, and of all students that there are then, with the "
        + "layouts that they have then; contests are numbered from 0, at most 6.";
    private static final String SCORE = "Its score is 1000 times the ticks, divided by the time of the text by the "
        + "student's layout of the contest, rounded down.";
    private static final String RANKS = "Ranks are from 0 on: of those who have a result, a rank is how many have a lower "
        + "score, or the same one and a lower number.";
    private static final String CALLS = "An object is used for at most 512 calls after it has been made; what later calls "
        + "answer is free.";
    private static final String CONSTANTS = "The constants: `NONE = -1`: There is none.";

    /** From a key, to a key, how long: the ends of the rows, the columns, the hands. */
    private static final int[][] STEP = {
        {0, 0, 3}, {5, 5, 3}, {6, 6, 3}, {11, 11, 3},
        {0, 6, 7}, {6, 0, 7}, {2, 8, 7}, {9, 3, 7}, {5, 11, 7}, {11, 5, 7},
        {0, 1, 4}, {0, 2, 4}, {2, 0, 4}, {0, 8, 4}, {6, 8, 4}, {8, 0, 4}, {3, 5, 4}, {5, 9, 4}, {9, 11, 4}, {11, 9, 4},
        {2, 3, 2}, {3, 2, 2}, {8, 9, 2}, {5, 6, 2}, {6, 5, 2}, {0, 5, 2}, {0, 11, 2}, {11, 0, 2}, {2, 9, 2}, {6, 11, 2}};

    private TermSentences() {
    }

    private static void timeIs(int want, int... letters) {
        due(new School().students(1).types(0, letters), want, "time", 0);
    }

    private static long allPairs(School x, int student) {
        long sum = 0;
        for (int first = 0; first < 12; first++) {
            for (int letter = 0; letter < 12; letter++) {
                sum += x.answer("pair", student, first, letter);
            }
        }
        return sum;
    }

    private static void pairsAre(School x, long want, int student) {
        long sum = allPairs(x, student);
        if (sum != want) {
            report("the slips of all pairs are " + sum + ", due are " + want);
        }
    }

    private static int[] repeated(int first, int times, int letter) {
        int[] letters = new int[times + 1];
        java.util.Arrays.fill(letters, letter);
        letters[0] = first;
        return letters;
    }

    // ---- keys, layouts

    @Sentence(promise = 6, value = ROWS)
    static void keysAreFrom0To11() {
        School x = new School().students(1);
        due(x, 0, "letterOn", 0, 0);
        due(x, 11, "letterOn", 0, 11);
        due(x, INDEX, "letterOn", 0, -1);
        due(x, INDEX, "letterOn", 0, 12);
    }

    @Sentence(promise = 12, value = ROWS)
    static void rowsEndBehindTheKey5() {
        timeIs(2 + 2, 5, 6);
        timeIs(2 + 7, 0, 6);
        timeIs(2 + 7, 5, 11);
        timeIs(2 + 2, 6, 11);
        timeIs(2 + 2, 0, 5);
    }

    @Sentence(promise = 8, value = ROWS)
    static void columnsBeginAnewBehindTheKey5() {
        int[][] fingers = {{0, 0}, {5, 5}, {6, 0}, {11, 5}};
        for (int[] keyAndFinger : fingers) {
            School x = new School().students(1).slips(0, keyAndFinger[0], 1);
            for (int finger = 0; finger < 6; finger++) {
                due(x, finger == keyAndFinger[1] ? 1 : 0, "slips", 0, 1, finger);
            }
        }
    }

    @Sentence(promise = 8, value = "Each column has a finger of its number; the fingers 0 to 2 are of the left hand, "
        + "3 to 5 of the right one.")
    static void handsPartBetweenTheFingers2And3() {
        int[] hands = {0, 0, 0, 1, 1, 1, 0, 0, 0, 1, 1, 1};
        for (int key = 0; key < 12; key++) {
            School x = new School().students(1).slips(0, key, 1);
            for (int finger = 0; finger < 6; finger++) {
                due(x, key % 6 == finger ? 1 : 0, "slips", 0, 1, finger);
            }
            due(x, 1, "slips", 0, 2, hands[key]);
            due(x, 0, "slips", 0, 2, 1 - hands[key]);
        }
    }

    @Sentence(promise = 5, value = "There are the letters 0 to 11.")
    static void lettersAreFrom0To11() {
        School x = new School().students(1);
        due(x, 0, "keyOf", 0, 0);
        due(x, 11, "keyOf", 0, 11);
        due(x, INDEX, "keyOf", 0, -1);
        due(x, INDEX, "keyOf", 0, 12);
    }

    @Sentence(promise = 7, value = "There are the letters 0 to 11.")
    static void lettersToTypeAreFrom0To11() {
        School x = new School().students(1);
        due(x, 0, "press", 0, 0, 0);
        due(x, 0, "press", 0, 11, 11);
        due(x, INDEX, "press", 0, -1, 0);
        due(x, INDEX, "press", 0, 12, 0);
    }

    @Sentence(promise = 2, value = STUDENTS)
    static void studentsAreNumberedFrom0AtMost5() {
        School x = new School();
        for (int number = 0; number < 5; number++) {
            due(x, INDEX, "pressed", number);
            due(x, number, "student");
            due(x, 0, "pressed", number);
        }
        due(x, STATE, "student");
        due(x, INDEX, "pressed", 5);
    }

    @Sentence(promise = 2, value = STUDENTS)
    static void eachLayoutIsAtFirstOfTheSameNumbers() {
        School x = new School().students(1).swaps(0, 0, 11).students(4);
        for (int student = 1; student < 5; student++) {
            for (int i = 0; i < 12; i++) {
                due(x, i, "keyOf", student, i);
                due(x, i, "letterOn", student, i);
            }
        }
    }

    @Sentence(promise = 3, value = STUDENTS)
    static void theWayIsByKeyAtFirst() {
        School x = new School().students(1);
        x.answer("carry", 0, 1);
        x.students(4);
        for (int student = 1; student < 5; student++) {
            due(x, 0, "carry", student, 1);
        }
        School y = new School().students(1).slips(0, 2, 1).swaps(0, 2, 3);
        due(y, 1, "slips", 0, 0, 2);
        due(y, 0, "slips", 0, 0, 3);
    }

    // ---- times

    @Sentence(promise = 12, value = STEPS)
    static void timeOfEachKindOfStep() {
        for (int[] step : STEP) {
            timeIs(2 + step[2], step[0], step[1]);
        }
    }

    @Sentence(promise = 13, value = STEPS)
    static void timeAnewOfEachKindOfStep() {
        for (int[] step : STEP) {
            due(new School().students(1).types(0, step[0], step[1]), 2 + step[2], "timeAnew", 0);
        }
    }

    @Sentence(promise = 21, value = STEPS)
    static void textTimeOfEachKindOfStep() {
        for (int[] step : STEP) {
            due(new School().students(1).contestOf(step[0], step[1]), 2 + step[2], "of", 0, 0, 0);
        }
    }

    @Sentence(promise = 12, value = TEXT)
    static void timeOfAnEmptyHistoryAndOfALetter() {
        due(new School().students(1), 0, "time", 0);
        timeIs(2, 0);
        timeIs(2, 11);
        timeIs(2 + 3, 11, 11);
        timeIs(2 + 7 + 4, 0, 6, 7);
        due(new School().students(1).types(0, 0, 6).swaps(0, 6, 3), 2 + 2, "time", 0);
    }

    @Sentence(promise = 13, value = TEXT)
    static void timeAnewOfAnEmptyHistoryAndOfALetter() {
        School x = new School().students(1);
        due(x, 0, "timeAnew", 0);
        due(x.types(0, 11), 2, "timeAnew", 0);
        due(x.types(0, 11), 2 + 3, "timeAnew", 0);
        due(x.swaps(0, 11, 0), 2 + 3, "timeAnew", 0);
        due(x.types(0, 6), 2 + 3 + 7, "timeAnew", 0);
    }

    @Sentence(promise = 21, value = TEXT)
    static void textTimeOfALetterAndOf24() {
        School x = new School().students(1).contestOf(11).contestOf(11, 11);
        x.contestOf(0, 6, 0, 6, 0, 6, 0, 6, 0, 6, 0, 6, 0, 6, 0, 6, 0, 6, 0, 6, 0, 6, 0, 6);
        due(x, 2, "of", 0, 0, 0);
        due(x, 2 + 3, "of", 1, 0, 0);
        due(x, 2 + 23 * 7, "of", 2, 0, 0);
    }

    // ---- typing, slips

    @Sentence(promise = 7, value = "A student is to type a letter, and presses a key: it is a slip, if that is not the "
        + "letter's key.")
    static void aSlipIsEachKeyButTheLetters() {
        int[] keys = {11, 1, 2, 4, 3, 5, 6, 7, 8, 9, 10, 0};
        School x = new School().students(1).swaps(0, 0, 11).swaps(0, 3, 4);
        for (int letter = 0; letter < 12; letter++) {
            for (int key = 0; key < 12; key++) {
                due(x, key == keys[letter] ? 0 : 1, "press", 0, letter, key);
            }
        }
        due(x, 12 * 11, "slips", 0, 3, 0);
    }

    @Sentence(promise = 11, value = HISTORY)
    static void theLast30LettersAreKept() {
        School x = new School().students(2);
        for (int typed = 1; typed <= 95; typed++) {
            x.answer("press", 0, typed * 5 % 12, typed * 7 % 12);
            int oldest = Math.max(1, typed - 29);
            due(x, oldest * 5 % 12, "history", 0, 0);
            due(x, typed * 5 % 12, "history", 0, typed - oldest);
            due(x, NONE, "history", 0, typed - oldest + 1);
        }
        for (int place = 0; place < 30; place++) {
            due(x, (66 + place) * 5 % 12, "history", 0, place);
        }
        due(x, NONE, "history", 1, 0);
    }

    @Sentence(promise = 12, value = HISTORY)
    static void timeIsOfTheLast30() {
        School x = new School().students(1).types(0, repeated(0, 29, 6));
        due(x, 2 + 7 + 28 * 3, "time", 0);
        due(x.repeats(0, 6, 1), 2 + 29 * 3, "time", 0);
        due(x.repeats(0, 6, 1), 2 + 29 * 3, "time", 0);
        due(x.types(0, 0), 2 + 28 * 3 + 7, "time", 0);
    }

    @Sentence(promise = 13, value = HISTORY)
    static void timeAnewIsOfTheLast30() {
        School x = new School().students(1).types(0, repeated(0, 29, 6));
        due(x, 2 + 7 + 28 * 3, "timeAnew", 0);
        due(x.repeats(0, 6, 1), 2 + 29 * 3, "timeAnew", 0);
        due(x.repeats(0, 6, 1), 2 + 29 * 3, "timeAnew", 0);
        due(x.types(0, 0), 2 + 28 * 3 + 7, "timeAnew", 0);
    }

    @Sentence(promise = 15, value = HISTORY)
    static void whatASwapSavesIsOfTheLast30() {
        School x = new School().students(1).types(0, repeated(0, 29, 6));
        due(x, 5, "saves", 0, 0, 3);
        due(x.repeats(0, 6, 1), 0, "saves", 0, 0, 3);
    }

    @Sentence(promise = 16, value = HISTORY)
    static void theBestSwapIsOfTheLast30() {
        School x = new School().students(1).types(0, repeated(0, 29, 6));
        due(x, 12 * 0 + 3, "best", 0);
        due(x.repeats(0, 6, 1), NONE, "best", 0);
    }

    @Sentence(promise = 8, value = COUNTED)
    static void slipsAreOfTheLettersKeyThen() {
        School x = new School().students(1);
        x.answer("press", 0, 0, 11);
        due(x, 1, "slips", 0, 0, 0);
        due(x, 0, "slips", 0, 0, 11);
        x.swaps(0, 0, 11);
        due(x, 1, "slips", 0, 0, 0);
        due(x, 0, "slips", 0, 0, 11);
        x.answer("press", 0, 0, 0);
        due(x, 1, "slips", 0, 0, 0);
        due(x, 1, "slips", 0, 0, 11);
        x.answer("press", 0, 0, 11);
        due(x, 2, "slips", 0, 3, 0);
    }

    @Sentence(promise = 9, value = COUNTED)
    static void theFirstSlipOfAllIsOfNoPair() {
        for (int letter = 0; letter < 12; letter += 11) {
            School x = new School().students(2).types(0, 3).slips(1, letter, 1);
            due(x, 1, "slips", 1, 3, 0);
            pairsAre(x, 0, 1);
            x.slips(1, 7, 1);
            due(x, 1, "pair", 1, letter, 7);
            pairsAre(x, 1, 1);
        }
    }

    @Sentence(promise = 9, value = COUNTED)
    static void theLetterAheadCountsRightOrWrong() {
        School x = new School().students(1).slips(0, 0, 1).slips(0, 11, 1).types(0, 11).slips(0, 0, 1);
        due(x, 1, "pair", 0, 0, 11);
        due(x, 0, "pair", 0, 11, 11);
        due(x, 1, "pair", 0, 11, 0);
        due(x, 0, "pair", 0, 0, 0);
        pairsAre(x, 2, 0);
    }

    @Sentence(promise = 9, value = COUNTED)
    static void pairsGoOnWhenTheHistoryIsFull() {
        for (int typed = 28; typed <= 32; typed++) {
            School x = new School().students(1).repeats(0, 4, typed - 1).types(0, 5).slips(0, 11, 1).slips(0, 0, 1);
            due(x, 1, "pair", 0, 5, 11);
            due(x, 1, "pair", 0, 11, 0);
            due(x, 0, "pair", 0, 4, 11);
            pairsAre(x, 2, 0);
        }
    }

    // ---- swaps

    @Sentence(promise = 4, value = TO_SWAP)
    static void eachKeyHasTheOtherOnesLetter() {
        for (int key = 0; key < 12; key++) {
            for (int other = 0; other < 12; other++) {
                if (key != other) {
                    School x = new School().students(2).swaps(0, key, other);
                    for (int i = 0; i < 12; i++) {
                        int partner = i == key ? other : i == other ? key : i;
                        due(x, partner, "keyOf", 0, i);
                        due(x, partner, "letterOn", 0, i);
                        due(x, i, "keyOf", 1, i);
                    }
                }
            }
        }
    }

    @Sentence(promise = 4, value = TO_SWAP)
    static void aSecondSwapIsOfTheLayoutOfThen() {
        School x = new School().students(1).swaps(0, 0, 11).swaps(0, 11, 5);
        int[] letters = {11, 1, 2, 3, 4, 0, 6, 7, 8, 9, 10, 5};
        for (int key = 0; key < 12; key++) {
            due(x, letters[key], "letterOn", 0, key);
            due(x, key, "keyOf", 0, letters[key]);
        }
        x.swaps(0, 11, 5).swaps(0, 11, 0);
        for (int key = 0; key < 12; key++) {
            due(x, key, "letterOn", 0, key);
            due(x, key, "keyOf", 0, key);
        }
    }

    @Sentence(promise = 4, value = BY_LETTER)
    static void countsAreSwappedByLetterAlone() {
        School x = new School().students(2).slips(0, 0, 3).slips(0, 6, 1).slips(1, 0, 2);
        x.swaps(0, 0, 11);
        due(x, 3, "slips", 0, 0, 0);
        due(x, 0, "slips", 0, 0, 11);
        x.answer("carry", 0, 1);
        x.swaps(0, 0, 11);
        due(x, 0, "slips", 0, 0, 0);
        due(x, 3, "slips", 0, 0, 11);
        x.swaps(0, 6, 11);
        due(x, 3, "slips", 0, 0, 6);
        due(x, 1, "slips", 0, 0, 11);
        due(x, 4, "slips", 0, 3, 0);
        due(x, 2, "slips", 1, 0, 0);
    }

    @Sentence(promise = 8, value = BY_LETTER)
    static void countsGoToOtherFingersAndHands() {
        School x = new School().students(1).slips(0, 2, 3).slips(0, 9, 1);
        x.answer("carry", 0, 1);
        x.swaps(0, 2, 9);
        due(x, 1, "slips", 0, 1, 2);
        due(x, 3, "slips", 0, 1, 3);
        due(x, 1, "slips", 0, 2, 0);
        due(x, 3, "slips", 0, 2, 1);
        x.swaps(0, 9, 3);
        due(x, 3, "slips", 0, 1, 3);
        due(x, 0, "slips", 0, 0, 9);
    }

    @Sentence(promise = 9, value = BY_LETTER)
    static void pairsNeverChange() {
        for (int way = 0; way <= 1; way++) {
            School x = new School().students(1).types(0, 0).slips(0, 11, 2).slips(0, 0, 1);
            x.answer("carry", 0, way);
            x.swaps(0, 0, 11).swaps(0, 11, 5);
            due(x, 1, "pair", 0, 0, 11);
            due(x, 1, "pair", 0, 11, 11);
            due(x, 1, "pair", 0, 11, 0);
            pairsAre(x, 3, 0);
        }
    }

    // ---- lessons, the maker

    private static void lessonIs(School x, int first, int second, int third) {
        due(x, first, "lesson", 0, 0);
        due(x, second, "lesson", 0, 1);
        due(x, third, "lesson", 0, 2);
    }

    @Sentence(promise = 14, value = LESSON)
    static void aLessonWithoutSlipsIsOfTheLowestLetters() {
        lessonIs(new School().students(1), 0, 1, 2);
        lessonIs(new School().students(1).types(0, 9, 10, 11), 0, 1, 2);
        lessonIs(new School().students(1).swaps(0, 0, 11).swaps(0, 1, 10), 0, 1, 2);
    }

    @Sentence(promise = 14, value = LESSON)
    static void aLessonOfFewerThanThreeThatSlipped() {
        lessonIs(new School().students(1).slips(0, 7, 1), 7, 0, 1);
        lessonIs(new School().students(1).slips(0, 1, 1), 1, 0, 2);
        lessonIs(new School().students(1).slips(0, 3, 1).slips(0, 7, 2), 7, 3, 0);
    }

    @Sentence(promise = 14, value = LESSON)
    static void theFirstAndTheLastLetterOfALesson() {
        lessonIs(new School().students(1).slips(0, 0, 1), 0, 1, 2);
        lessonIs(new School().students(1).slips(0, 0, 2).slips(0, 11, 1), 0, 11, 1);
        lessonIs(new School().students(1).slips(0, 0, 1).slips(0, 11, 2), 11, 0, 1);
        lessonIs(new School().students(1).slips(0, 0, 1).slips(0, 11, 2).slips(0, 5, 3), 5, 11, 0);
        lessonIs(new School().students(1).slips(0, 0, 2).slips(0, 11, 1).slips(0, 5, 3), 5, 0, 11);
    }

    @Sentence(promise = 14, value = LESSON)
    static void ofTheSameSlipsTheLowerLetterIsFirst() {
        School x = new School().students(1).slips(0, 11, 1).slips(0, 10, 1).slips(0, 9, 1);
        lessonIs(x, 9, 10, 11);
        lessonIs(x.slips(0, 8, 1), 8, 9, 10);
        lessonIs(x.slips(0, 11, 1), 11, 8, 9);
        lessonIs(new School().students(1).slips(0, 4, 3).slips(0, 8, 2).slips(0, 6, 1).slips(0, 5, 1), 4, 8, 5);
        School each = new School().students(1);
        for (int letter = 11; letter >= 0; letter--) {
            each.slips(0, letter, 2);
        }
        lessonIs(each, 0, 1, 2);
        lessonIs(each.slips(0, 11, 1), 11, 0, 1);
    }

    @Sentence(promise = 14, value = LESSON)
    static void aLettersSlipsAreItsKeys() {
        School x = new School().students(1).slips(0, 3, 1).slips(0, 5, 1);
        lessonIs(x.swaps(0, 3, 11), 5, 11, 0);
        x.answer("carry", 0, 1);
        lessonIs(x.swaps(0, 3, 10), 5, 11, 0);
        due(x, 1, "slips", 0, 0, 10);
        School y = new School().students(1).slips(0, 3, 1).slips(0, 5, 1);
        y.answer("carry", 0, 1);
        lessonIs(y.swaps(0, 3, 11), 3, 5, 0);
    }

    @Sentence(promise = 14, value = LESSON)
    static void eachThirdPlaceHasTheSameLetter() {
        School x = new School().students(1).slips(0, 11, 3).slips(0, 6, 2).slips(0, 8, 1);
        int[] most = {11, 6, 8};
        for (int place = 0; place < 100; place++) {
            due(x, most[place % 3], "lesson", 0, place);
        }
    }

    @Sentence(promise = 15, value = SAVES)
    static void savesIsTheTimeLessThatWithTheSwap() {
        School x = new School().students(1);
        due(x, 0, "saves", 0, 0, 11);
        x.types(0, 11);
        due(x, 0, "saves", 0, 0, 11);
        x.types(0, 5);
        due(x, 7 - 2, "saves", 0, 0, 11);
        due(x, 7 - 2, "saves", 0, 11, 0);
        due(x, 0, "saves", 0, 5, 11);
        due(x, 7 - 4, "saves", 0, 11, 10);
        due(x, 0, "saves", 0, 0, 6);
        x.swaps(0, 0, 11);
        due(x, 2 - 7, "saves", 0, 0, 11);
    }

    @Sentence(promise = 4, value = SAVES)
    static void aSwapAnswersWhatItSavesAheadOfIt() {
        School x = new School().students(1);
        due(x, 0, "swap", 0, 0, 11);
        due(x, 0, "swap", 0, 0, 11);
        x.types(0, 11, 5);
        due(x, 7 - 2, "swap", 0, 11, 0);
        due(x, 2 - 7, "swap", 0, 11, 0);
        due(x, 0, "swap", 0, 1, 2);
    }

    private static void bestIs(int want, int... letters) {
        due(new School().students(1).types(0, letters), want, "best", 0);
    }

    @Sentence(promise = 16, value = BEST)
    static void noSwapThatSavesNothingIsBest() {
        bestIs(NONE);
        bestIs(NONE, 0);
        bestIs(NONE, 11);
        bestIs(NONE, 0, 0, 0);
        bestIs(NONE, 0, 3);
        bestIs(NONE, 0, 3, 1, 4, 2, 5);
    }

    @Sentence(promise = 16, value = BEST)
    static void aSwapThatSavesOneIsBest() {
        School x = new School().students(1).types(0, 2, 9, 4, 9, 8, 7, 3, 1, 4, 7);
        due(x, 1, "saves", 0, 8, 9);
        due(x, 12 * 8 + 9, "best", 0);
        x.swaps(0, 8, 9);
        due(x, -1, "saves", 0, 8, 9);
    }

    @Sentence(promise = 16, value = BEST)
    static void theSwapThatSavesMostIsBest() {
        School x = new School().students(1).types(0, 11, 9, 0, 8, 1);
        due(x, 4, "saves", 0, 0, 9);
        due(x, 6, "saves", 0, 8, 11);
        due(x, 12 * 8 + 11, "best", 0);
    }

    @Sentence(promise = 16, value = BEST)
    static void ofTheSameTheLowerKeyIsBest() {
        School x = new School().students(1).types(0, 2, 4, 11, 0);
        due(x, 2, "saves", 0, 0, 11);
        due(x, 2, "saves", 0, 2, 4);
        due(x, 12 * 0 + 11, "best", 0);
        School y = new School().students(1).types(0, 6, 7, 1, 11, 0, 6, 3, 7);
        due(y, y.answer("saves", 0, 6, 7), "saves", 0, 0, 1);
        due(y, 12 * 0 + 1, "best", 0);
    }

    @Sentence(promise = 16, value = BEST)
    static void ofTheSameKeyTheLowerOtherIsBest() {
        School x = new School().students(1).types(0, 0, 11, 5, 0, 1);
        due(x, 5, "saves", 0, 1, 5);
        due(x, 5, "saves", 0, 1, 11);
        due(x, 12 * 1 + 5, "best", 0);
    }

    /** Could a key -1 or 12 be swapped, such a swap would save more in these, or as much and come first. */
    @Sentence(promise = 16, value = BEST)
    static void theBestSwapIsOfKeysThatThereAre() {
        bestIs(12 * 0 + 3, 3, 9);
        bestIs(12 * 0 + 1, 6, 0, 9, 6);
        bestIs(12 * 5 + 6, 6, 9, 10, 3, 8, 4, 7, 9, 5, 9, 1, 11, 2, 3, 0, 3);
    }

    @Sentence(promise = 16, value = BEST)
    static void theBestSwapIsTheFirstOfThoseThatSaveMost() {
        for (int run = 0; run < 60; run++) {
            School x = new School().students(1).swaps(0, run % 12, (run + 1 + run % 11) % 12);
            for (int i = 0; i <= run % 34; i++) {
                x.types(0, (i * i * (run + 5) + 7 * i + run * run) % 12);
            }
            due(x, bestBySaves(x), "best", 0);
        }
    }

    private static long bestBySaves(School x) {
        long most = 0;
        long found = NONE;
        for (int key = 0; key < 12; key++) {
            for (int other = key + 1; other < 12; other++) {
                long saved = x.answer("saves", 0, key, other);
                if (saved > most) {
                    most = saved;
                    found = 12 * key + other;
                }
            }
        }
        return found;
    }

    // ---- contests

    @Sentence(promise = 17, value = DRAFT)
    static void theDraftHasAtMost24Letters() {
        School x = new School();
        for (int letters = 1; letters <= 24; letters++) {
            due(x, letters, "draft", letters % 12);
        }
        due(x, STATE, "draft", 0);
        due(x, 24, "clear");
    }

    @Sentence(promise = 18, value = DRAFT)
    static void theDraftIsInitiallyEmpty() {
        due(new School(), 0, "clear");
        due(new School().students(1), STATE, "contest");
        due(new School(), 1, "draft", 0);
    }

    @Sentence(promise = 19, value = CONTEST)
    static void aContestIsOfTheDraftOfThen() {
        School x = new School().students(1).contestOf(0, 6).drafts(0, 0, 0);
        due(x, 2 + 7, "of", 0, 0, 0);
        due(x, 1, "contest");
        due(x, 2 + 7, "of", 0, 0, 0);
        due(x, 2 + 3 + 3, "of", 1, 0, 0);
        x.drafts(1);
        x.answer("clear");
        due(x, 2 + 7, "of", 0, 0, 0);
    }

    @Sentence(promise = 19, value = CONTEST)
    static void aContestIsOfTheStudentsOfThen() {
        School x = new School();
        for (int students = 1; students <= 5; students++) {
            x.students(1).contestOf(0, 6);
        }
        for (int contest = 0; contest < 5; contest++) {
            for (int student = 0; student < 6; student++) {
                due(x, student <= contest ? 9 : INDEX, "of", contest, student, 0);
                due(x, student <= contest ? 1000 : INDEX, "result", contest, student, 9);
            }
        }
    }

    @Sentence(promise = 19, value = CONTEST)
    static void aContestIsByTheLayoutsOfThen() {
        School x = new School().students(2).swaps(1, 6, 3).contestOf(0, 6).swaps(0, 6, 3).swaps(1, 6, 3);
        due(x, 2 + 7, "of", 0, 0, 0);
        due(x, 2 + 2, "of", 0, 1, 0);
        due(x, 1000, "result", 0, 0, 9);
        due(x, 1000, "result", 0, 1, 4);
        due(x.contestOf(0, 6), 2 + 2, "of", 1, 0, 0);
        due(x, 2 + 7, "of", 1, 1, 0);
    }

    @Sentence(promise = 19, value = CONTEST)
    static void contestsAreNumberedFrom0AtMost6() {
        School x = new School().students(1);
        for (int number = 0; number < 6; number++) {
            x.drafts(number);
            due(x, INDEX, "ranked", number, 0);
            due(x, number, "contest");
            due(x, NONE, "ranked", number, 0);
        }
        x.drafts(0);
        due(x, STATE, "contest");
        due(x, INDEX, "ranked", 6, 0);
    }

    @Sentence(promise = 20, value = "A student's result is told once, in ticks.")
    static void aResultIsToldOnce() {
        School x = new School().students(5).contestOf(0).contestOf(0);
        for (int contest = 0; contest < 2; contest++) {
            for (int student = 0; student < 5; student++) {
                due(x, NONE, "of", contest, student, 1);
                due(x, 500 * (student + 1), "result", contest, student, student + 1);
                due(x, STATE, "result", contest, student, student + 1);
                due(x, STATE, "result", contest, student, 7);
                due(x, student + 1, "of", contest, student, 1);
            }
        }
    }

    @Sentence(promise = 20, value = SCORE)
    static void aScoreIsRoundedDown() {
        School x = new School().students(5).contestOf(0, 0, 3);
        due(x, 142, "result", 0, 0, 1);
        due(x, 857, "result", 0, 1, 6);
        due(x, 1000, "result", 0, 2, 7);
        due(x, 1142, "result", 0, 3, 8);
        due(x, 428, "result", 0, 4, 3);
    }

    @Sentence(promise = 20, value = SCORE)
    static void theLeastAndTheGreatestScore() {
        School x = new School().students(2).contestOf(11);
        x.contestOf(0, 6, 0, 6, 0, 6, 0, 6, 0, 6, 0, 6, 0, 6, 0, 6, 0, 6, 0, 6, 0, 6, 0, 6);
        due(x, 500, "result", 0, 0, 1);
        due(x, 49999500, "result", 0, 1, 99999);
        due(x, 6, "result", 1, 0, 1);
        due(x, 613490, "result", 1, 1, 99999);
    }

    @Sentence(promise = 21, value = SCORE)
    static void theScoreIsByTheLayoutOfTheContest() {
        School x = new School().students(2).swaps(1, 6, 3).contestOf(0, 6).swaps(0, 6, 3).swaps(1, 6, 3);
        due(x, 2222, "result", 0, 0, 20);
        due(x, 5000, "result", 0, 1, 20);
        due(x, 2222, "of", 0, 0, 2);
        due(x, 5000, "of", 0, 1, 2);
    }

    /** Three of the same layout, by the ticks of each; 0 for no result. */
    private static School race(int... ticks) {
        School x = new School().students(ticks.length).contestOf(0, 1, 3);
        for (int student = ticks.length - 1; student >= 0; student--) {
            if (ticks[student] > 0) {
                x.answer("result", 0, student, ticks[student]);
            }
        }
        return x;
    }

    @Sentence(promise = 21, value = RANKS)
    static void ranksByTheScoreAndThenByTheNumber() {
        int[][] ticksAndRanks = {
            {7, 7, 7, 7, 7, 0, 1, 2, 3, 4}, {5, 4, 3, 2, 1, 4, 3, 2, 1, 0}, {1, 2, 3, 4, 5, 0, 1, 2, 3, 4},
            {9, 8, 9, 8, 9, 2, 0, 3, 1, 4}, {0, 8, 0, 8, 7, NONE, 1, NONE, 2, 0}, {0, 0, 0, 0, 1, NONE, NONE, NONE, NONE, 0},
            {0, 0, 0, 0, 0, NONE, NONE, NONE, NONE, NONE}};
        for (int[] row : ticksAndRanks) {
            School x = race(java.util.Arrays.copyOf(row, 5));
            for (int student = 0; student < 5; student++) {
                due(x, row[5 + student], "of", 0, student, 3);
            }
        }
    }

    @Sentence(promise = 22, value = RANKS)
    static void whoHasARankByTheScoreAndThenByTheNumber() {
        int[][] ticksAndHolders = {
            {7, 7, 7, 7, 7, 0, 1, 2, 3, 4}, {5, 4, 3, 2, 1, 4, 3, 2, 1, 0}, {1, 2, 3, 4, 5, 0, 1, 2, 3, 4},
            {9, 8, 9, 8, 9, 1, 3, 0, 2, 4}, {0, 8, 0, 8, 7, 4, 1, 3, NONE, NONE}, {0, 0, 0, 0, 1, 4, NONE, NONE, NONE, NONE},
            {0, 0, 0, 0, 0, NONE, NONE, NONE, NONE, NONE}};
        for (int[] row : ticksAndHolders) {
            School x = race(java.util.Arrays.copyOf(row, 5));
            for (int rank = 0; rank < 5; rank++) {
                due(x, row[5 + rank], "ranked", 0, rank);
            }
        }
    }

    @Sentence(promise = 21, value = RANKS)
    static void theSameScoreByOtherTicks() {
        School x = new School().students(2).swaps(1, 6, 3).contestOf(0, 6);
        due(x, 1000, "result", 0, 1, 4);
        due(x, 1000, "result", 0, 0, 9);
        due(x, 0, "of", 0, 0, 3);
        due(x, 1, "of", 0, 1, 3);
    }

    /** 1000 / 153 is more than 1000 / 158, but both scores are 6. */
    @Sentence(promise = 21, value = RANKS)
    static void theSameScoreByRounding() {
        School x = new School().students(2).swaps(0, 9, 1);
        x.contestOf(0, 6, 0, 6, 0, 6, 0, 6, 0, 6, 0, 6, 0, 6, 0, 6, 0, 6, 0, 6, 0, 6, 3, 9);
        due(x, 153, "of", 0, 0, 0);
        due(x, 158, "of", 0, 1, 0);
        due(x, 6, "result", 0, 1, 1);
        due(x, 6, "result", 0, 0, 1);
        due(x, 0, "of", 0, 0, 3);
        due(x, 1, "of", 0, 1, 3);
        due(x, 0, "ranked", 0, 0);
    }

    // ---- the constants, and how long an object is used

    @Sentence(promise = 1, value = CONSTANTS)
    static void noneIsBelow0() {
        if (Homekeys.NONE != -1) {
            report("NONE is " + Homekeys.NONE);
        }
    }

    @Sentence(promise = 1, value = "`BY_KEY = 0, BY_LETTER = 1`: How slips are carried.")
    static void theWaysAre0And1() {
        if (Homekeys.BY_KEY != 0 || Homekeys.BY_LETTER != 1) {
            report("BY_KEY is " + Homekeys.BY_KEY + ", BY_LETTER is " + Homekeys.BY_LETTER);
        }
    }

    /** A student who slipped at the letter 11 as often as leaves one call. */
    private static School aCallLeft() {
        School x = new School().students(1);
        while (x.callsLeft() > 1) {
            x.answer("press", 0, 11, 0);
        }
        return x;
    }

    @Sentence(promise = 10, value = CALLS)
    static void the512thCallTellsAllThatWasPressed() {
        due(aCallLeft(), 510, "pressed", 0);
        due(aCallLeft(), 0, "press", 0, 11, 11);
    }

    @Sentence(promise = 8, value = CALLS)
    static void the512thCallTellsAllSlips() {
        due(aCallLeft(), 510, "slips", 0, 0, 11);
        due(aCallLeft(), 510, "slips", 0, 1, 5);
        due(aCallLeft(), 510, "slips", 0, 2, 1);
        due(aCallLeft(), 510, "slips", 0, 3, 0);
    }

    @Sentence(promise = 9, value = CALLS)
    static void the512thCallTellsAllSlipsOfAPair() {
        due(aCallLeft(), 509, "pair", 0, 11, 11);
    }

    @Sentence(promise = 11, value = CALLS)
    static void the512thCallTellsOfTheHistory() {
        due(aCallLeft(), 11, "history", 0, 29);
        due(aCallLeft(), NONE, "history", 0, 30);
        due(aCallLeft(), 2 + 29 * 3, "time", 0);
        due(aCallLeft(), 2 + 29 * 3, "timeAnew", 0);
    }
}
