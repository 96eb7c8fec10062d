/** Each promise of the document by its number: ordinary calls, the edges that it names, and wrong ones. */
public final class PromiseTest {
    private static final Class<IndexOutOfBoundsException> INDEX = IndexOutOfBoundsException.class;
    private static final Class<IllegalArgumentException> ARGUMENT = IllegalArgumentException.class;
    private static final Class<IllegalStateException> STATE = IllegalStateException.class;
    private static final int LOWEST = Integer.MIN_VALUE, HIGHEST = Integer.MAX_VALUE;

    private static int wrong = 0;

    private interface Call {
        long answer();
    }

    public static void main(String[] args) {
        promise1NewObject();
        promise2Student();
        promise3Carry();
        promise4Swap();
        promise4SwapCarries();
        promise5KeyOf();
        promise6LetterOn();
        promise7Press();
        promise8Slips();
        promise8SlipsOfKeysThen();
        promise9Pair();
        promise10Pressed();
        promise11History();
        promise12Time();
        promise12EachStep();
        promise13TimeAnew();
        promise14Lesson();
        promise15Saves();
        promise16Best();
        promise16BestOfTheSame();
        promise17Draft();
        promise18Clear();
        promise19Contest();
        promise19ContestLimits();
        promise20Result();
        promise21Of();
        promise22Ranked();
        constants();
        objectsAreApart();
        System.out.println(wrong == 0 ? "each promise holds" : wrong + " answers are not as due");
        if (wrong != 0) {
            System.exit(1);
        }
    }

    private static void due(String call, long want, Call made) {
        try {
            long got = made.answer();
            if (got != want) {
                report(call + " answered " + got + ", due is " + want);
            }
        } catch (RuntimeException e) {
            report(call + " threw " + e + ", due is " + want);
        }
    }

    private static void refused(String call, Class<? extends RuntimeException> kind, Call made) {
        try {
            report(call + " answered " + made.answer() + ", due is " + kind.getSimpleName());
        } catch (RuntimeException e) {
            if (e.getClass() != kind) {
                report(call + " threw " + e + ", due is " + kind.getSimpleName());
            }
        }
    }

    private static void report(String line) {
        wrong++;
        System.out.println(line);
    }

    private static int number(boolean slip) {
        return slip ? 1 : 0;
    }

    private static Homekeys school(int students) {
        Homekeys school = new Homekeys();
        for (int i = 0; i < students; i++) {
            school.student();
        }
        return school;
    }

    /** Types letters rightly, each on the key that it is on. */
    private static void typeRight(Homekeys school, int student, int... letters) {
        for (int letter : letters) {
            school.press(student, letter, school.keyOf(student, letter));
        }
    }

    /** Lets a student slip at a letter, as often as told. */
    private static void slip(Homekeys school, int student, int letter, int times) {
        for (int i = 0; i < times; i++) {
            school.press(student, letter, (school.keyOf(student, letter) + 1) % 12);
        }
    }

    private static void draft(Homekeys school, int... letters) {
        for (int letter : letters) {
            school.draft(letter);
        }
    }

    private static void promise1NewObject() {
        Homekeys x = new Homekeys();
        refused("1: keyOf(0, 0)", INDEX, () -> x.keyOf(0, 0));
        refused("1: pressed(0)", INDEX, () -> x.pressed(0));
        refused("1: ranked(0, 0)", INDEX, () -> x.ranked(0, 0));
        refused("1: of(0, 0, 0)", INDEX, () -> x.of(0, 0, 0));
        refused("1: contest()", STATE, x::contest);
        due("1: clear()", 0, x::clear);
        due("1: student()", 0, x::student);
        due("1: the way is by key", Homekeys.BY_KEY, () -> x.carry(0, Homekeys.BY_KEY));
    }

    private static void promise2Student() {
        Homekeys x = new Homekeys();
        for (int i = 0; i < 5; i++) {
            int number = i;
            refused("2: pressed(" + i + ") ahead of it", INDEX, () -> x.pressed(number));
            due("2: student()", i, x::student);
            due("2: pressed(" + i + ")", 0, () -> x.pressed(number));
        }
        refused("2: a sixth student()", STATE, x::student);
        refused("2: a seventh student()", STATE, x::student);
        refused("2: pressed(5)", INDEX, () -> x.pressed(5));
        refused("2: pressed(-1)", INDEX, () -> x.pressed(-1));
        for (int key = 0; key < 12; key++) {
            int k = key;
            due("2: keyOf(4, " + k + ")", k, () -> x.keyOf(4, k));
            due("2: letterOn(4, " + k + ")", k, () -> x.letterOn(4, k));
        }
    }

    private static void promise3Carry() {
        Homekeys x = school(2);
        due("3: carry(0, BY_KEY) at first", 0, () -> x.carry(0, 0));
        due("3: carry(0, BY_LETTER)", 0, () -> x.carry(0, 1));
        due("3: carry(0, BY_LETTER) again", 1, () -> x.carry(0, 1));
        due("3: carry(1, BY_LETTER), of its own", 0, () -> x.carry(1, 1));
        refused("3: carry(0, 2)", ARGUMENT, () -> x.carry(0, 2));
        refused("3: carry(0, -1)", ARGUMENT, () -> x.carry(0, -1));
        refused("3: carry(0, lowest)", ARGUMENT, () -> x.carry(0, LOWEST));
        refused("3: carry(2, 0)", INDEX, () -> x.carry(2, 0));
        refused("3: carry(2, 2)", INDEX, () -> x.carry(2, 2));
        refused("3: carry(-1, 0)", INDEX, () -> x.carry(-1, 0));
        refused("3: carry(highest, 0)", INDEX, () -> x.carry(HIGHEST, 0));
        due("3: carry(0, BY_KEY) behind wrong ones", 1, () -> x.carry(0, 0));
        due("3: carry(0, BY_LETTER) behind it", 0, () -> x.carry(0, 1));
    }

    private static void promise4Swap() {
        Homekeys x = school(2);
        due("4: swap(0, 0, 11) without a history", 0, () -> x.swap(0, 0, 11));
        due("4: keyOf(0, 0)", 11, () -> x.keyOf(0, 0));
        due("4: keyOf(0, 11)", 0, () -> x.keyOf(0, 11));
        due("4: letterOn(0, 0)", 11, () -> x.letterOn(0, 0));
        due("4: letterOn(0, 11)", 0, () -> x.letterOn(0, 11));
        due("4: swap(0, 11, 5)", 0, () -> x.swap(0, 11, 5));
        due("4: keyOf(0, 0)", 5, () -> x.keyOf(0, 0));
        due("4: keyOf(0, 5)", 11, () -> x.keyOf(0, 5));
        due("4: keyOf(1, 0), another layout", 0, () -> x.keyOf(1, 0));
        typeRight(x, 1, 0, 6, 0);
        due("4: swap(1, 6, 3) saves", 10, () -> x.swap(1, 6, 3));
        due("4: time(1)", 6, () -> x.time(1));
        due("4: swap(1, 3, 6) costs", -10, () -> x.swap(1, 3, 6));
        due("4: time(1)", 16, () -> x.time(1));
        refused("4: swap(1, 4, 4)", ARGUMENT, () -> x.swap(1, 4, 4));
        refused("4: swap(1, 12, 12)", INDEX, () -> x.swap(1, 12, 12));
        refused("4: swap(1, -1, 0)", INDEX, () -> x.swap(1, -1, 0));
        refused("4: swap(1, 12, 0)", INDEX, () -> x.swap(1, 12, 0));
        refused("4: swap(1, 0, -1)", INDEX, () -> x.swap(1, 0, -1));
        refused("4: swap(1, 0, 12)", INDEX, () -> x.swap(1, 0, 12));
        refused("4: swap(2, 0, 1)", INDEX, () -> x.swap(2, 0, 1));
        refused("4: swap(2, 4, 4)", INDEX, () -> x.swap(2, 4, 4));
        refused("4: swap(-1, 0, 1)", INDEX, () -> x.swap(-1, 0, 1));
        due("4: keyOf(1, 0) behind wrong ones", 0, () -> x.keyOf(1, 0));
    }

    private static void promise4SwapCarries() {
        Homekeys x = school(1);
        slip(x, 0, 2, 3);
        slip(x, 0, 9, 1);
        x.swap(0, 2, 9);
        due("4: by key, slips(0, 0, 2)", 3, () -> x.slips(0, 0, 2));
        due("4: by key, slips(0, 0, 9)", 1, () -> x.slips(0, 0, 9));
        x.carry(0, Homekeys.BY_LETTER);
        due("4: to tell the way carries nothing", 3, () -> x.slips(0, 0, 2));
        x.swap(0, 9, 2);
        due("4: by letter, slips(0, 0, 2)", 1, () -> x.slips(0, 0, 2));
        due("4: by letter, slips(0, 0, 9)", 3, () -> x.slips(0, 0, 9));
        due("4: by letter, the finger 2", 1, () -> x.slips(0, 1, 2));
        due("4: by letter, the finger 3", 3, () -> x.slips(0, 1, 3));
        due("4: by letter, all", 4, () -> x.slips(0, 3, 0));
        due("4: pairs never change", 2, () -> x.pair(0, 2, 2));
        due("4: pairs never change", 1, () -> x.pair(0, 2, 9));
        x.carry(0, Homekeys.BY_KEY);
        x.swap(0, 2, 9);
        due("4: by key again, slips(0, 0, 2)", 1, () -> x.slips(0, 0, 2));
    }

    private static void promise5KeyOf() {
        Homekeys x = school(1);
        x.swap(0, 3, 7);
        x.swap(0, 7, 10);
        due("5: keyOf(0, 3)", 10, () -> x.keyOf(0, 3));
        due("5: keyOf(0, 7)", 3, () -> x.keyOf(0, 7));
        due("5: keyOf(0, 10)", 7, () -> x.keyOf(0, 10));
        due("5: keyOf(0, 11)", 11, () -> x.keyOf(0, 11));
        refused("5: keyOf(0, -1)", INDEX, () -> x.keyOf(0, -1));
        refused("5: keyOf(0, 12)", INDEX, () -> x.keyOf(0, 12));
        refused("5: keyOf(0, highest)", INDEX, () -> x.keyOf(0, HIGHEST));
        refused("5: keyOf(1, 0)", INDEX, () -> x.keyOf(1, 0));
        refused("5: keyOf(-1, 0)", INDEX, () -> x.keyOf(-1, 0));
        refused("5: keyOf(5, 0)", INDEX, () -> x.keyOf(5, 0));
    }

    private static void promise6LetterOn() {
        Homekeys x = school(1);
        x.swap(0, 3, 7);
        x.swap(0, 7, 10);
        due("6: letterOn(0, 10)", 3, () -> x.letterOn(0, 10));
        due("6: letterOn(0, 3)", 7, () -> x.letterOn(0, 3));
        due("6: letterOn(0, 7)", 10, () -> x.letterOn(0, 7));
        due("6: letterOn(0, 0)", 0, () -> x.letterOn(0, 0));
        refused("6: letterOn(0, -1)", INDEX, () -> x.letterOn(0, -1));
        refused("6: letterOn(0, 12)", INDEX, () -> x.letterOn(0, 12));
        refused("6: letterOn(0, lowest)", INDEX, () -> x.letterOn(0, LOWEST));
        refused("6: letterOn(1, 0)", INDEX, () -> x.letterOn(1, 0));
        refused("6: letterOn(-1, 0)", INDEX, () -> x.letterOn(-1, 0));
    }

    private static void promise7Press() {
        Homekeys x = school(1);
        due("7: press(0, 4, 4)", 0, () -> number(x.press(0, 4, 4)));
        due("7: press(0, 4, 5)", 1, () -> number(x.press(0, 4, 5)));
        x.swap(0, 4, 5);
        due("7: press(0, 4, 5) on a new layout", 0, () -> number(x.press(0, 4, 5)));
        due("7: press(0, 4, 4) on a new layout", 1, () -> number(x.press(0, 4, 4)));
        due("7: press(0, 11, 11)", 0, () -> number(x.press(0, 11, 11)));
        due("7: press(0, 0, 11)", 1, () -> number(x.press(0, 0, 11)));
        refused("7: press(0, -1, 0)", INDEX, () -> number(x.press(0, -1, 0)));
        refused("7: press(0, 12, 0)", INDEX, () -> number(x.press(0, 12, 0)));
        refused("7: press(0, 0, -1)", INDEX, () -> number(x.press(0, 0, -1)));
        refused("7: press(0, 0, 12)", INDEX, () -> number(x.press(0, 0, 12)));
        refused("7: press(1, 0, 0)", INDEX, () -> number(x.press(1, 0, 0)));
        refused("7: press(-1, 0, 0)", INDEX, () -> number(x.press(-1, 0, 0)));
        due("7: pressed(0) behind wrong ones", 6, () -> x.pressed(0));
        due("7: slips of all behind wrong ones", 3, () -> x.slips(0, 3, 0));
        due("7: history(0, 6) behind wrong ones", -1, () -> x.history(0, 6));
    }

    private static void promise8Slips() {
        Homekeys x = school(2);
        int[] slipsOfKeys = {1, 2, 3, 4, 5, 6, 7, 8, 9, 1, 2, 3};
        int[] slipsOfFingers = {8, 10, 12, 5, 7, 9};
        for (int key = 0; key < 12; key++) {
            slip(x, 0, key, slipsOfKeys[key]);
        }
        typeRight(x, 0, 0, 1, 2);
        for (int key = 0; key < 12; key++) {
            int k = key;
            due("8: slips(0, 0, " + k + ")", slipsOfKeys[k], () -> x.slips(0, 0, k));
        }
        for (int finger = 0; finger < 6; finger++) {
            int f = finger;
            due("8: slips(0, 1, " + f + ")", slipsOfFingers[f], () -> x.slips(0, 1, f));
        }
        due("8: slips(0, 2, 0), left", 30, () -> x.slips(0, 2, 0));
        due("8: slips(0, 2, 1), right", 21, () -> x.slips(0, 2, 1));
        due("8: slips(0, 3, 0), all", 51, () -> x.slips(0, 3, 0));
        due("8: slips(1, 3, 0), another student", 0, () -> x.slips(1, 3, 0));
        int[][] out = {{-1, 0}, {4, 0}, {LOWEST, 0}, {HIGHEST, 0}, {0, -1}, {0, 12}, {1, -1}, {1, 6},
            {2, -1}, {2, 2}, {3, -1}, {3, 1}, {4, 4}, {-1, -1}};
        for (int[] o : out) {
            refused("8: slips(0, " + o[0] + ", " + o[1] + ")", ARGUMENT, () -> x.slips(0, o[0], o[1]));
            refused("8: slips(2, " + o[0] + ", " + o[1] + ")", INDEX, () -> x.slips(2, o[0], o[1]));
        }
        refused("8: slips(-1, 0, 0)", INDEX, () -> x.slips(-1, 0, 0));
    }

    private static void promise8SlipsOfKeysThen() {
        Homekeys x = school(1);
        x.press(0, 0, 11);
        x.swap(0, 0, 11);
        x.press(0, 0, 0);
        due("8: the key that the letter was on", 1, () -> x.slips(0, 0, 0));
        due("8: the key that the letter is on, not the pressed one", 1, () -> x.slips(0, 0, 11));
    }

    private static void promise9Pair() {
        Homekeys x = school(2);
        x.press(0, 3, 0);
        due("9: the first one counts for no pair", 0, () -> pairs(x, 0));
        x.press(0, 4, 0);
        due("9: pair(0, 3, 4)", 1, () -> x.pair(0, 3, 4));
        due("9: pair(0, 4, 3), the other way", 0, () -> x.pair(0, 4, 3));
        x.press(0, 4, 4);
        x.press(0, 3, 0);
        due("9: behind a right one", 1, () -> x.pair(0, 4, 3));
        due("9: a right one counts not", 0, () -> x.pair(0, 4, 4));
        x.press(1, 3, 0);
        x.press(0, 3, 0);
        due("9: of each student its own", 1, () -> x.pair(0, 3, 3));
        due("9: of each student its own", 0, () -> x.pair(1, 3, 3));
        due("9: pair(0, 11, 11)", 0, () -> x.pair(0, 11, 11));
        refused("9: pair(0, -1, 0)", INDEX, () -> x.pair(0, -1, 0));
        refused("9: pair(0, 12, 0)", INDEX, () -> x.pair(0, 12, 0));
        refused("9: pair(0, 0, -1)", INDEX, () -> x.pair(0, 0, -1));
        refused("9: pair(0, 0, 12)", INDEX, () -> x.pair(0, 0, 12));
        refused("9: pair(0, 1, -1)", INDEX, () -> x.pair(0, 1, -1));
        refused("9: pair(0, NONE, 3)", INDEX, () -> x.pair(0, Homekeys.NONE, 3));
        refused("9: pair(2, 0, 0)", INDEX, () -> x.pair(2, 0, 0));
        refused("9: pair(-1, 0, 0)", INDEX, () -> x.pair(-1, 0, 0));
        longPairs();
    }

    private static long pairs(Homekeys school, int student) {
        long sum = 0;
        for (int first = 0; first < 12; first++) {
            for (int letter = 0; letter < 12; letter++) {
                sum += school.pair(student, first, letter);
            }
        }
        return sum;
    }

    /** More slips than are kept letters: pairs count on. */
    private static void longPairs() {
        Homekeys x = school(1);
        slip(x, 0, 6, 40);
        due("9: pair(0, 6, 6) of forty", 39, () -> x.pair(0, 6, 6));
        due("9: slips(0, 0, 6) of forty", 40, () -> x.slips(0, 0, 6));
        x.press(0, 7, 0);
        due("9: pair(0, 6, 7) behind forty", 1, () -> x.pair(0, 6, 7));
    }

    private static void promise10Pressed() {
        Homekeys x = school(2);
        due("10: pressed(0) at first", 0, () -> x.pressed(0));
        typeRight(x, 0, 1, 2);
        slip(x, 0, 3, 2);
        due("10: pressed(0), slips too", 4, () -> x.pressed(0));
        due("10: pressed(1)", 0, () -> x.pressed(1));
        typeRight(x, 0, new int[40]);
        due("10: pressed(0), more than are kept", 44, () -> x.pressed(0));
        refused("10: pressed(2)", INDEX, () -> x.pressed(2));
        refused("10: pressed(-1)", INDEX, () -> x.pressed(-1));
        refused("10: pressed(lowest)", INDEX, () -> x.pressed(LOWEST));
    }

    private static void promise11History() {
        Homekeys x = school(2);
        due("11: history(0, 0) at first", -1, () -> x.history(0, 0));
        for (int i = 0; i < 30; i++) {
            x.press(0, i % 12, 0);
        }
        due("11: history(0, 0) of 30", 0, () -> x.history(0, 0));
        due("11: history(0, 29) of 30", 5, () -> x.history(0, 29));
        due("11: history(0, 30) of 30", -1, () -> x.history(0, 30));
        typeRight(x, 0, 11);
        due("11: history(0, 0) of 31", 1, () -> x.history(0, 0));
        due("11: history(0, 28) of 31", 5, () -> x.history(0, 28));
        due("11: history(0, 29) of 31", 11, () -> x.history(0, 29));
        due("11: history(0, 30) of 31", -1, () -> x.history(0, 30));
        typeRight(x, 0, 10, 9);
        due("11: history(0, 0) of 33", 3, () -> x.history(0, 0));
        due("11: history(0, 28) of 33", 10, () -> x.history(0, 28));
        due("11: history(0, 29) of 33", 9, () -> x.history(0, 29));
        due("11: history(0, highest)", -1, () -> x.history(0, HIGHEST));
        due("11: history(1, 0), another student", -1, () -> x.history(1, 0));
        refused("11: history(0, -1)", INDEX, () -> x.history(0, -1));
        refused("11: history(0, lowest)", INDEX, () -> x.history(0, LOWEST));
        refused("11: history(2, 0)", INDEX, () -> x.history(2, 0));
        refused("11: history(-1, 0)", INDEX, () -> x.history(-1, 0));
    }

    private static void promise12Time() {
        Homekeys x = school(2);
        due("12: time(0) of an empty text", 0, () -> x.time(0));
        typeRight(x, 0, 5);
        due("12: time(0) of a letter", 2, () -> x.time(0));
        typeRight(x, 0, 5);
        due("12: time(0), the same key", 5, () -> x.time(0));
        typeRight(x, 0, 11);
        due("12: time(0), the same finger", 12, () -> x.time(0));
        typeRight(x, 0, 3);
        due("12: time(0), the same hand", 16, () -> x.time(0));
        typeRight(x, 0, 2);
        due("12: time(0), another hand", 18, () -> x.time(0));
        x.press(0, 2, 9);
        due("12: time(0), of letters and not of what was pressed", 21, () -> x.time(0));
        due("12: time(1)", 0, () -> x.time(1));
        x.swap(0, 11, 0);
        due("12: time(0) by the layout of now", 18 - 7 + 2 - 4 + 2 + 3, () -> x.time(0));
        typeRight(x, 1, 6);
        typeRight(x, 1, new int[29]);
        due("12: time(1) of 30", 2 + 7 + 28 * 3, () -> x.time(1));
        typeRight(x, 1, 0);
        due("12: time(1) of the last 30", 2 + 29 * 3, () -> x.time(1));
        refused("12: time(2)", INDEX, () -> x.time(2));
        refused("12: time(-1)", INDEX, () -> x.time(-1));
    }

    /** From each key (a line) to each key. */
    private static final String[] STEPS = {
        "344222744222", "434222474222", "443222447222", "222344222744", "222434222474", "222443222447",
        "744222344222", "474222434222", "447222443222", "222744222344", "222474222434", "222447222443"};

    private static void promise12EachStep() {
        for (int from = 0; from < 12; from++) {
            for (int to = 0; to < 12; to++) {
                Homekeys x = school(1);
                typeRight(x, 0, from, to);
                int want = 2 + STEPS[from].charAt(to) - '0';
                due("12: time from " + from + " to " + to, want, () -> x.time(0));
                due("13: timeAnew from " + from + " to " + to, want, () -> x.timeAnew(0));
            }
        }
    }

    private static void promise13TimeAnew() {
        Homekeys x = school(2);
        due("13: timeAnew(0) of an empty text", 0, () -> x.timeAnew(0));
        typeRight(x, 0, 7);
        due("13: timeAnew(0) of a letter", 2, () -> x.timeAnew(0));
        typeRight(x, 0, 7, 1, 7, 1, 3);
        due("13: timeAnew(0)", 2 + 3 + 3 * 7 + 2, () -> x.timeAnew(0));
        due("13: timeAnew(0) once more", 28, () -> x.timeAnew(0));
        due("13: timeAnew(1), another student", 0, () -> x.timeAnew(1));
        x.swap(0, 7, 3);
        due("13: timeAnew(0) by the layout of now", 2 + 3 + 3 * 2 + 7, () -> x.timeAnew(0));
        typeRight(x, 0, new int[29]);
        due("13: timeAnew(0) of the last 30", x.time(0), () -> x.timeAnew(0));
        refused("13: timeAnew(2)", INDEX, () -> x.timeAnew(2));
        refused("13: timeAnew(-1)", INDEX, () -> x.timeAnew(-1));
    }

    private static void promise14Lesson() {
        Homekeys x = school(1);
        due("14: lesson(0, 0) without slips", 0, () -> x.lesson(0, 0));
        due("14: lesson(0, 1) without slips", 1, () -> x.lesson(0, 1));
        due("14: lesson(0, 2) without slips", 2, () -> x.lesson(0, 2));
        slip(x, 0, 9, 2);
        slip(x, 0, 5, 2);
        slip(x, 0, 11, 3);
        int[] most = {11, 5, 9};
        for (int place = 0; place < 100; place += 7) {
            int p = place;
            due("14: lesson(0, " + p + ")", most[p % 3], () -> x.lesson(0, p));
        }
        due("14: lesson(0, 99)", 11, () -> x.lesson(0, 99));
        due("14: lesson(0, 2), of the same the lower letter first", 9, () -> x.lesson(0, 2));
        x.swap(0, 9, 1);
        due("14: lesson(0, 1), the key's slips are the other letter's", 1, () -> x.lesson(0, 1));
        due("14: lesson(0, 2)", 5, () -> x.lesson(0, 2));
        x.swap(0, 1, 5);
        due("14: lesson(0, 2), by letters and not by keys", 9, () -> x.lesson(0, 2));
        refused("14: lesson(0, 100)", INDEX, () -> x.lesson(0, 100));
        refused("14: lesson(0, -1)", INDEX, () -> x.lesson(0, -1));
        refused("14: lesson(0, highest)", INDEX, () -> x.lesson(0, HIGHEST));
        refused("14: lesson(1, 0)", INDEX, () -> x.lesson(1, 0));
        refused("14: lesson(-1, 0)", INDEX, () -> x.lesson(-1, 0));
    }

    private static void promise15Saves() {
        Homekeys x = school(1);
        due("15: saves(0, 0, 6) of an empty text", 0, () -> x.saves(0, 0, 6));
        typeRight(x, 0, 0, 6, 0, 3);
        due("15: saves(0, 6, 3)", 10 - 5, () -> x.saves(0, 6, 3));
        due("15: saves(0, 3, 6), the other way", 5, () -> x.saves(0, 3, 6));
        due("15: saves(0, 6, 9)", 10, () -> x.saves(0, 6, 9));
        due("15: saves(0, 3, 1) costs", -2, () -> x.saves(0, 3, 1));
        due("15: saves(0, 0, 6), both of the text", 0, () -> x.saves(0, 0, 6));
        due("15: saves(0, 4, 5), none of the text", 0, () -> x.saves(0, 4, 5));
        due("15: keyOf(0, 6) as it was", 6, () -> x.keyOf(0, 6));
        due("15: time(0) as it was", 18, () -> x.time(0));
        x.swap(0, 6, 9);
        due("15: saves(0, 9, 6) by the layout of now", -10, () -> x.saves(0, 9, 6));
        refused("15: saves(0, 4, 4)", ARGUMENT, () -> x.saves(0, 4, 4));
        refused("15: saves(0, -1, -1)", INDEX, () -> x.saves(0, -1, -1));
        refused("15: saves(0, 12, 0)", INDEX, () -> x.saves(0, 12, 0));
        refused("15: saves(0, -1, 0)", INDEX, () -> x.saves(0, -1, 0));
        refused("15: saves(0, 0, 12)", INDEX, () -> x.saves(0, 0, 12));
        refused("15: saves(0, 0, -1)", INDEX, () -> x.saves(0, 0, -1));
        refused("15: saves(1, 0, 1)", INDEX, () -> x.saves(1, 0, 1));
        refused("15: saves(1, 4, 4)", INDEX, () -> x.saves(1, 4, 4));
        refused("15: saves(-1, 0, 1)", INDEX, () -> x.saves(-1, 0, 1));
    }

    private static void promise16Best() {
        Homekeys x = school(1);
        due("16: best(0) of an empty text", -1, () -> x.best(0));
        typeRight(x, 0, 0);
        due("16: best(0) of a letter", -1, () -> x.best(0));
        typeRight(x, 0, 3);
        due("16: best(0), when none saves", -1, () -> x.best(0));
        typeRight(x, 0, 9, 3, 9, 3);
        due("16: best(0), that which saves most", 12 * 0 + 3, () -> x.best(0));
        due("16: keyOf(0, 3) as it was", 3, () -> x.keyOf(0, 3));
        due("16: what the best one saves", 20, () -> x.swap(0, 0, 3));
        due("16: best(0) by the layout of now", -1, () -> x.best(0));
        refused("16: best(1)", INDEX, () -> x.best(1));
        refused("16: best(-1)", INDEX, () -> x.best(-1));
        refused("16: best(highest)", INDEX, () -> x.best(HIGHEST));
    }

    private static void promise16BestOfTheSame() {
        Homekeys x = school(2);
        typeRight(x, 0, 2, 8);
        due("16: of the same, the lowest pair", 12 * 2 + 3, () -> x.best(0));
        typeRight(x, 1, 11, 5);
        due("16: of the same, the lower key", 12 * 0 + 5, () -> x.best(1));
    }

    private static void promise17Draft() {
        Homekeys x = new Homekeys();
        refused("17: draft(-1)", INDEX, () -> x.draft(-1));
        refused("17: draft(12)", INDEX, () -> x.draft(12));
        for (int i = 0; i < 24; i++) {
            int letter = i % 12;
            due("17: draft(" + letter + ")", i + 1, () -> x.draft(letter));
        }
        refused("17: draft(0) behind 24", STATE, () -> x.draft(0));
        refused("17: draft(12) behind 24", INDEX, () -> x.draft(12));
        refused("17: draft(lowest) behind 24", INDEX, () -> x.draft(LOWEST));
        due("17: clear()", 24, x::clear);
        due("17: draft(11) behind it", 1, () -> x.draft(11));
    }

    private static void promise18Clear() {
        Homekeys x = school(1);
        due("18: clear() at first", 0, x::clear);
        draft(x, 0, 6, 3);
        due("18: clear()", 3, x::clear);
        due("18: clear() again", 0, x::clear);
        refused("18: contest() of what was cleared", STATE, x::contest);
        draft(x, 5, 5);
        x.contest();
        due("18: the text is of the new letters alone", 5, () -> x.of(0, 0, 0));
        due("18: clear() behind a contest", 0, x::clear);
    }

    private static void promise19Contest() {
        Homekeys x = new Homekeys();
        refused("19: contest() of nothing", STATE, x::contest);
        draft(x, 0, 6);
        refused("19: contest() without students", STATE, x::contest);
        x.student();
        x.student();
        x.swap(1, 6, 3);
        due("19: contest()", 0, x::contest);
        refused("19: contest() of an empty draft", STATE, x::contest);
        x.swap(0, 6, 3);
        x.student();
        due("19: the layout of then", 9, () -> x.of(0, 0, 0));
        due("19: the layout of then", 4, () -> x.of(0, 1, 0));
        refused("19: a student of later", INDEX, () -> x.of(0, 2, 0));
        due("19: draft(0), empty then", 1, () -> x.draft(0));
        due("19: contest()", 1, x::contest);
        due("19: a student of the second", 2, () -> x.of(1, 2, 0));
        due("19: the first one's text stays", 9, () -> x.of(0, 0, 0));
    }

    private static void promise19ContestLimits() {
        Homekeys x = school(1);
        for (int i = 0; i < 6; i++) {
            int number = i;
            refused("19: of(" + i + ", 0, 0) ahead of it", INDEX, () -> x.of(number, 0, 0));
            x.draft(i);
            due("19: contest()", i, x::contest);
        }
        x.draft(3);
        refused("19: a seventh contest()", STATE, x::contest);
        due("19: the draft stays", 1, x::clear);
        refused("19: of(6, 0, 0)", INDEX, () -> x.of(6, 0, 0));
        draft(x, 0, 6, 0, 6, 0, 6, 0, 6, 0, 6, 0, 6, 0, 6, 0, 6, 0, 6, 0, 6, 0, 6, 0, 6);
        refused("19: a seventh contest(), of 24", STATE, x::contest);
        due("19: the draft of 24 stays", 24, x::clear);
        longestText();
    }

    private static void longestText() {
        Homekeys x = school(1);
        draft(x, 0, 6, 0, 6, 0, 6, 0, 6, 0, 6, 0, 6, 0, 6, 0, 6, 0, 6, 0, 6, 0, 6, 0, 6);
        x.contest();
        due("19: the time of 24 letters", 2 + 23 * 7, () -> x.of(0, 0, 0));
        due("20: the least score", 6, () -> x.result(0, 0, 1));
    }

    /** A contest 0 of the letters 0, 1 and 3 (2 + 4 + 2 = 8), and of three students. */
    private static Homekeys contest() {
        Homekeys school = school(3);
        draft(school, 0, 1, 3);
        school.contest();
        school.student();
        return school;
    }

    private static void promise20Result() {
        Homekeys x = contest();
        due("20: result(0, 0, 1)", 125, () -> x.result(0, 0, 1));
        due("20: result(0, 1, 99999)", 12499875, () -> x.result(0, 1, 99999));
        refused("20: result(0, 0, 1) again", STATE, () -> x.result(0, 0, 1));
        refused("20: result(0, 0, 0) again", ARGUMENT, () -> x.result(0, 0, 0));
        refused("20: result(0, 2, 0)", ARGUMENT, () -> x.result(0, 2, 0));
        refused("20: result(0, 2, 100000)", ARGUMENT, () -> x.result(0, 2, 100000));
        refused("20: result(0, 2, -1)", ARGUMENT, () -> x.result(0, 2, -1));
        refused("20: result(0, 2, lowest)", ARGUMENT, () -> x.result(0, 2, LOWEST));
        refused("20: result(0, 3, 1), of later", INDEX, () -> x.result(0, 3, 1));
        refused("20: result(0, 3, 0), of later", INDEX, () -> x.result(0, 3, 0));
        refused("20: result(0, 4, 1)", INDEX, () -> x.result(0, 4, 1));
        refused("20: result(0, 5, 1)", INDEX, () -> x.result(0, 5, 1));
        refused("20: result(0, -1, 1)", INDEX, () -> x.result(0, -1, 1));
        refused("20: result(1, 0, 1)", INDEX, () -> x.result(1, 0, 1));
        refused("20: result(-1, 0, 1)", INDEX, () -> x.result(-1, 0, 1));
        refused("20: result(6, 0, 1)", INDEX, () -> x.result(6, 0, 1));
        due("20: ticks of the first result", 1, () -> x.of(0, 0, 1));
        due("20: no result behind wrong ones", -1, () -> x.of(0, 2, 1));
        x.swap(2, 0, 4);
        x.swap(2, 1, 7);
        due("20: by the layout of then, rounded down", 375, () -> x.result(0, 2, 3));
        shortestText();
    }

    private static void shortestText() {
        Homekeys x = school(2);
        draft(x, 1, 1, 3);
        x.contest();
        due("20: rounded down", 2857, () -> x.result(0, 0, 20));
        x.draft(0);
        x.contest();
        due("20: the greatest score", 49999500, () -> x.result(1, 0, 99999));
        due("20: of each contest its own", -1, () -> x.of(1, 1, 1));
    }

    private static void promise21Of() {
        Homekeys x = contest();
        for (int what = 1; what <= 3; what++) {
            int w = what;
            due("21: of(0, 0, " + w + ") without a result", -1, () -> x.of(0, 0, w));
        }
        due("21: of(0, 0, 0) without a result", 8, () -> x.of(0, 0, 0));
        x.result(0, 2, 10);
        due("21: of(0, 2, 0)", 8, () -> x.of(0, 2, 0));
        due("21: of(0, 2, 1)", 10, () -> x.of(0, 2, 1));
        due("21: of(0, 2, 2)", 1250, () -> x.of(0, 2, 2));
        due("21: of(0, 2, 3), alone", 0, () -> x.of(0, 2, 3));
        x.result(0, 0, 10);
        due("21: of(0, 2, 3), of the same score", 1, () -> x.of(0, 2, 3));
        due("21: of(0, 0, 3), of the same score", 0, () -> x.of(0, 0, 3));
        x.result(0, 1, 9);
        due("21: of(0, 1, 3), a lower score", 0, () -> x.of(0, 1, 3));
        due("21: of(0, 0, 3)", 1, () -> x.of(0, 0, 3));
        due("21: of(0, 2, 3)", 2, () -> x.of(0, 2, 3));
        refused("21: of(0, 0, 4)", ARGUMENT, () -> x.of(0, 0, 4));
        refused("21: of(0, 0, -1)", ARGUMENT, () -> x.of(0, 0, -1));
        refused("21: of(0, 0, highest)", ARGUMENT, () -> x.of(0, 0, HIGHEST));
        refused("21: of(0, 3, 4)", INDEX, () -> x.of(0, 3, 4));
        refused("21: of(0, 3, 0)", INDEX, () -> x.of(0, 3, 0));
        refused("21: of(0, -1, 0)", INDEX, () -> x.of(0, -1, 0));
        refused("21: of(0, 5, 0)", INDEX, () -> x.of(0, 5, 0));
        refused("21: of(1, 0, 0)", INDEX, () -> x.of(1, 0, 0));
        refused("21: of(1, 0, 4)", INDEX, () -> x.of(1, 0, 4));
        refused("21: of(-1, 0, 0)", INDEX, () -> x.of(-1, 0, 0));
    }

    private static void promise22Ranked() {
        Homekeys x = contest();
        due("22: ranked(0, 0) without results", -1, () -> x.ranked(0, 0));
        x.result(0, 1, 20);
        due("22: ranked(0, 0)", 1, () -> x.ranked(0, 0));
        due("22: ranked(0, 1) of one", -1, () -> x.ranked(0, 1));
        x.result(0, 2, 10);
        x.result(0, 0, 20);
        due("22: ranked(0, 0), the lowest score", 2, () -> x.ranked(0, 0));
        due("22: ranked(0, 1), of the same the lower number", 0, () -> x.ranked(0, 1));
        due("22: ranked(0, 2)", 1, () -> x.ranked(0, 2));
        due("22: ranked(0, 3)", -1, () -> x.ranked(0, 3));
        due("22: ranked(0, highest)", -1, () -> x.ranked(0, HIGHEST));
        refused("22: ranked(0, -1)", INDEX, () -> x.ranked(0, -1));
        refused("22: ranked(0, lowest)", INDEX, () -> x.ranked(0, LOWEST));
        refused("22: ranked(1, 0)", INDEX, () -> x.ranked(1, 0));
        refused("22: ranked(-1, 0)", INDEX, () -> x.ranked(-1, 0));
        refused("22: ranked(6, 0)", INDEX, () -> x.ranked(6, 0));
        scoresNotTicks();
    }

    /** Ranks are of scores: who has the slower layout has a lower score by the same ticks. */
    private static void scoresNotTicks() {
        Homekeys x = school(2);
        x.swap(1, 1, 6);
        draft(x, 0, 1, 0);
        x.contest();
        x.result(0, 0, 20);
        due("22: the score of the slower layout", 1375, () -> x.result(0, 1, 22));
        due("22: ranked(0, 0), more ticks but a lower score", 1, () -> x.ranked(0, 0));
        due("22: ranked(0, 1)", 0, () -> x.ranked(0, 1));
    }

    private static void constants() {
        due("NONE", -1, () -> Homekeys.NONE);
        due("BY_KEY", 0, () -> Homekeys.BY_KEY);
        due("BY_LETTER", 1, () -> Homekeys.BY_LETTER);
    }

    private static void objectsAreApart() {
        Homekeys one = school(1);
        Homekeys other = school(1);
        slip(one, 0, 1, 2);
        draft(one, 1);
        one.contest();
        due("another object's slips", 0, () -> other.slips(0, 3, 0));
        due("another object's draft", 0, other::clear);
        refused("another object's contest", INDEX, () -> other.ranked(0, 0));
    }
}
