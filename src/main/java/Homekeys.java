import java.util.Arrays;

/** A school of typing: layouts, slips, lessons, swaps and contests. ../shared/DOC.md says what it must do. */
public final class Homekeys {
    public static final int NONE = -1;
    public static final int BY_KEY = 0, BY_LETTER = 1;

    /** There are as many letters as keys. */
    private static final int KEYS = 12;
    private static final int COLUMNS = 6;
    private static final int HANDS = 2;
    private static final int FINGERS_OF_A_HAND = 3;

    private static final int TIME_OF_THE_FIRST = 2;
    private static final int TIME_SAME_KEY = 3;
    private static final int TIME_SAME_FINGER = 5;
    private static final int TIME_A_ROW = 2;
    private static final int TIME_SAME_HAND = 4;
    private static final int TIME_OTHER_HAND = 2;

    private static final int MOST_STUDENTS = 5;
    private static final int MOST_KEPT = 30;
    private static final int LESSON_PLACES = 100;
    private static final int LESSON_LETTERS = 3;
    private static final int MOST_DRAFTED = 24;
    private static final int MOST_CONTESTS = 6;
    private static final int MOST_TICKS = 99999;
    private static final int SCORE_OF_A_TICK = 1000;

    private static final int SLIPS_OF_A_KEY = 0, SLIPS_OF_A_FINGER = 1, SLIPS_OF_A_HAND = 2, SLIPS_OF_ALL = 3;
    private static final int TEXT_TIME = 0, TICKS = 1, SCORE = 2, RANK = 3;

    /** Null where there is no student yet. */
    private final Student[] students = new Student[MOST_STUDENTS];
    /** Null where there is no contest yet. */
    private final Contest[] contests = new Contest[MOST_CONTESTS];
    private final int[] draft = new int[MOST_DRAFTED];
    private int drafted = 0;
    /** How often a letter follows another one: filled anew by each count, kept here so that no call makes a row. */
    private final int[] follows = new int[KEYS * KEYS];

    public Homekeys() {
    }

    // ---- students, layouts

    public int student() throws IllegalStateException {
        for (int number = 0; number < students.length; number++) {
            if (students[number] == null) {
                students[number] = new Student();
                return number;
            }
        }
        throw new IllegalStateException("there are 5 students");
    }

    public int carry(int student, int way) throws IndexOutOfBoundsException, IllegalArgumentException {
        Student typist = studentAt(student);
        if (way != BY_KEY && way != BY_LETTER) {
            throw new IllegalArgumentException("way is out of range");
        }
        int before = typist.way;
        typist.way = way;
        return before;
    }

    public int swap(int student, int key, int other) throws IndexOutOfBoundsException, IllegalArgumentException {
        Student typist = studentAt(student);
        needTwoKeys(key, other);
        int saved = typist.savedBy(key, other);
        typist.exchange(key, other);
        return saved;
    }

    public int keyOf(int student, int letter) throws IndexOutOfBoundsException {
        Student typist = studentAt(student);
        needLetter(letter);
        return at(typist.keys, letter);
    }

    public int letterOn(int student, int key) throws IndexOutOfBoundsException {
        Student typist = studentAt(student);
        needKey(key);
        return at(typist.letters, key);
    }

    // ---- typing

    public boolean press(int student, int letter, int key) throws IndexOutOfBoundsException {
        Student typist = studentAt(student);
        needLetter(letter);
        needKey(key);
        return typist.type(letter, key);
    }

    public int slips(int student, int what, int which) throws IndexOutOfBoundsException, IllegalArgumentException {
        Student typist = studentAt(student);
        if (which < 0 || which >= groups(what)) {
            throw new IllegalArgumentException("what or which is out of range");
        }
        return typist.slipsOf(what, which);
    }

    public int pair(int student, int first, int letter) throws IndexOutOfBoundsException {
        Student typist = studentAt(student);
        needLetter(first);
        needLetter(letter);
        return at(typist.pairSlips, pairPlace(first, letter));
    }

    public int pressed(int student) throws IndexOutOfBoundsException {
        return studentAt(student).presses;
    }

    public int history(int student, int place) throws IndexOutOfBoundsException {
        Student typist = studentAt(student);
        if (place < 0) {
            throw new IndexOutOfBoundsException("place is below 0");
        }
        return place < typist.kept ? at(typist.typed, place) : NONE;
    }

    public int time(int student) throws IndexOutOfBoundsException {
        return studentAt(student).timeWith(NONE, NONE);
    }

    public int timeAnew(int student) throws IndexOutOfBoundsException {
        return studentAt(student).timeByCounts(follows);
    }

    // ---- lessons, the maker

    public int lesson(int student, int place) throws IndexOutOfBoundsException {
        Student typist = studentAt(student);
        if (place < 0 || place >= LESSON_PLACES) {
            throw new IndexOutOfBoundsException("no such place");
        }
        return typist.slippingLetter(place % LESSON_LETTERS);
    }

    public int saves(int student, int key, int other) throws IndexOutOfBoundsException, IllegalArgumentException {
        Student typist = studentAt(student);
        needTwoKeys(key, other);
        return typist.savedBy(key, other);
    }

    public int best(int student) throws IndexOutOfBoundsException {
        return studentAt(student).bestExchange();
    }

    // ---- contests

    public int draft(int letter) throws IndexOutOfBoundsException, IllegalStateException {
        needLetter(letter);
        if (drafted >= MOST_DRAFTED) {
            throw new IllegalStateException("the draft has 24 letters");
        }
        put(draft, drafted, letter);
        drafted++;
        return drafted;
    }

    public int clear() {
        int before = drafted;
        drafted = 0;
        return before;
    }

    public int contest() throws IllegalStateException {
        if (drafted == 0) {
            throw new IllegalStateException("the draft is empty");
        }
        if (students[0] == null) {
            throw new IllegalStateException("there are no students");
        }
        for (int number = 0; number < contests.length; number++) {
            if (contests[number] == null) {
                contests[number] = contestOfDraft();
                drafted = 0;
                return number;
            }
        }
        throw new IllegalStateException("there were 6 contests");
    }

    public int result(int contest, int student, int ticks)
            throws IndexOutOfBoundsException, IllegalArgumentException, IllegalStateException {
        Contest held = contestAt(contest);
        int time = entrantTime(held, student);
        if (ticks < 1 || ticks > MOST_TICKS) {
            throw new IllegalArgumentException("ticks is out of range");
        }
        if (held.hasResult(student)) {
            throw new IllegalStateException("it has a result");
        }
        int score = time == 0 ? 0 : SCORE_OF_A_TICK * ticks / time;
        put(held.ticks, student, ticks);
        put(held.scores, student, score);
        return score;
    }

    public int of(int contest, int student, int what) throws IndexOutOfBoundsException, IllegalArgumentException {
        Contest held = contestAt(contest);
        int time = entrantTime(held, student);
        if (what < TEXT_TIME || what > RANK) {
            throw new IllegalArgumentException("what is out of range");
        }
        if (what == TEXT_TIME) {
            return time;
        }
        return held.hasResult(student) ? held.told(student, what) : NONE;
    }

    public int ranked(int contest, int rank) throws IndexOutOfBoundsException {
        Contest held = contestAt(contest);
        if (rank < 0) {
            throw new IndexOutOfBoundsException("rank is below 0");
        }
        return held.holderOf(rank);
    }

    // What a call is about, and what it may not be.

    private Student studentAt(int number) {
        if (number >= 0 && number < students.length) {
            Student found = students[number];
            if (found != null) {
                return found;
            }
        }
        throw new IndexOutOfBoundsException("no such student");
    }

    private Contest contestAt(int number) {
        if (number >= 0 && number < contests.length) {
            Contest found = contests[number];
            if (found != null) {
                return found;
            }
        }
        throw new IndexOutOfBoundsException("no such contest");
    }

    private static int entrantTime(Contest held, int student) {
        int time = at(held.times, student);
        // No text is empty, so each entrant's time is above 0.
        if (time <= 0) {
            throw new IndexOutOfBoundsException("no such student of the contest");
        }
        return time;
    }

    private static void needLetter(int letter) {
        if (letter < 0 || letter >= KEYS) {
            throw new IndexOutOfBoundsException("no such letter");
        }
    }

    private static void needKey(int key) {
        if (key < 0 || key >= KEYS) {
            throw new IndexOutOfBoundsException("no such key");
        }
    }

    private static void needTwoKeys(int key, int other) {
        needKey(key);
        needKey(other);
        if (key == other) {
            throw new IllegalArgumentException("both keys are the same");
        }
    }

    private Contest contestOfDraft() {
        Contest begun = new Contest();
        for (int number = 0; number < students.length; number++) {
            Student entrant = students[number];
            if (entrant != null) {
                put(begun.times, number, textTime(draft, drafted, entrant.keys, NONE, NONE));
            }
        }
        return begun;
    }

    // Rows of numbers are read and written here alone, so that each index is looked at before it is used.

    private static int at(int[] row, int place) {
        return place >= 0 && place < row.length ? row[place] : 0;
    }

    private static void put(int[] row, int place, int value) {
        if (place >= 0 && place < row.length) {
            row[place] = value;
        }
    }

    private static void count(int[] row, int place) {
        put(row, place, at(row, place) + 1);
    }

    private static int pairPlace(int first, int letter) {
        return KEYS * first + letter;
    }

    // Keys, and the time from one to the next.

    private static int fingerOf(int key) {
        return key % COLUMNS;
    }

    private static int handOf(int key) {
        return key % COLUMNS / FINGERS_OF_A_HAND;
    }

    private static int rowOf(int key) {
        return key / COLUMNS;
    }

    private static int stepTime(int from, int to) {
        if (from == to) {
            return TIME_SAME_KEY;
        }
        if (fingerOf(from) == fingerOf(to)) {
            return TIME_SAME_FINGER + TIME_A_ROW * Math.abs(rowOf(from) - rowOf(to));
        }
        return handOf(from) == handOf(to) ? TIME_SAME_HAND : TIME_OTHER_HAND;
    }

    /** The time of a text by a layout in which two keys are swapped; NONE and NONE swap nothing. */
    private static int textTime(int[] text, int length, int[] keys, int key, int other) {
        int time = 0;
        int before = NONE;
        for (int place = 0; place < length; place++) {
            int now = swapped(at(keys, at(text, place)), key, other);
            time += place == 0 ? TIME_OF_THE_FIRST : stepTime(before, now);
            before = now;
        }
        return time;
    }

    private static int swapped(int key, int one, int other) {
        if (key == one) {
            return other;
        }
        return key == other ? one : key;
    }

    /** How many keys, fingers or hands slips are told for; 0 if there is no such way to tell them. */
    private static int groups(int what) {
        switch (what) {
            case SLIPS_OF_A_KEY:
                return KEYS;
            case SLIPS_OF_A_FINGER:
                return COLUMNS;
            case SLIPS_OF_A_HAND:
                return HANDS;
            case SLIPS_OF_ALL:
                return 1;
            default:
                return 0;
        }
    }

    private static int groupOf(int what, int key) {
        switch (what) {
            case SLIPS_OF_A_KEY:
                return key;
            case SLIPS_OF_A_FINGER:
                return fingerOf(key);
            case SLIPS_OF_A_HAND:
                return handOf(key);
            default:
                return 0;
        }
    }

    /** A student: the layout, what was typed, and what slipped. */
    private static final class Student {
        /** The key of each letter. */
        private final int[] keys = new int[KEYS];
        /** The letter of each key. */
        private final int[] letters = new int[KEYS];
        private int way = BY_KEY;
        private final int[] keySlips = new int[KEYS];
        private final int[] pairSlips = new int[KEYS * KEYS];
        /** The history: the oldest letter that is kept comes first. */
        private final int[] typed = new int[MOST_KEPT];
        private int kept = 0;
        private int presses = 0;

        private Student() {
            for (int key = 0; key < KEYS; key++) {
                put(keys, key, key);
                put(letters, key, key);
            }
        }

        private boolean type(int letter, int pressedKey) {
            int due = at(keys, letter);
            boolean slip = due != pressedKey;
            if (slip) {
                count(keySlips, due);
                if (kept > 0) {
                    count(pairSlips, pairPlace(at(typed, kept - 1), letter));
                }
            }
            keep(letter);
            presses++;
            return slip;
        }

        private void keep(int letter) {
            if (kept == MOST_KEPT) {
                System.arraycopy(typed, 1, typed, 0, MOST_KEPT - 1);
                kept--;
            }
            put(typed, kept, letter);
            kept++;
        }

        private void exchange(int key, int other) {
            int letter = at(letters, key);
            int otherLetter = at(letters, other);
            put(letters, key, otherLetter);
            put(letters, other, letter);
            put(keys, letter, other);
            put(keys, otherLetter, key);
            if (way == BY_LETTER) {
                int slipsBefore = at(keySlips, key);
                put(keySlips, key, at(keySlips, other));
                put(keySlips, other, slipsBefore);
            }
        }

        private int slipsOf(int what, int which) {
            int sum = 0;
            for (int key = 0; key < KEYS; key++) {
                if (groupOf(what, key) == which) {
                    sum += at(keySlips, key);
                }
            }
            return sum;
        }

        private int timeWith(int key, int other) {
            return textTime(typed, kept, keys, key, other);
        }

        private int savedBy(int key, int other) {
            return timeWith(NONE, NONE) - timeWith(key, other);
        }

        private int timeByCounts(int[] follows) {
            Arrays.fill(follows, 0);
            for (int place = 1; place < kept; place++) {
                count(follows, pairPlace(at(typed, place - 1), at(typed, place)));
            }
            int time = kept > 0 ? TIME_OF_THE_FIRST : 0;
            for (int first = 0; first < KEYS; first++) {
                for (int letter = 0; letter < KEYS; letter++) {
                    int step = stepTime(at(keys, first), at(keys, letter));
                    time += at(follows, pairPlace(first, letter)) * step;
                }
            }
            return time;
        }

        private int bestExchange() {
            int now = timeWith(NONE, NONE);
            int most = 0;
            int found = NONE;
            for (int key = 0; key < KEYS; key++) {
                for (int other = key + 1; other < KEYS; other++) {
                    int saved = now - timeWith(key, other);
                    if (saved > most) {
                        most = saved;
                        found = KEYS * key + other;
                    }
                }
            }
            return found;
        }

        /** The letter that slips most for 0, the second one for 1, and so on. */
        private int slippingLetter(int wanted) {
            int found = 0;
            for (int letter = 0; letter < KEYS; letter++) {
                if (lettersAhead(letter) == wanted) {
                    found = letter;
                }
            }
            return found;
        }

        private int lettersAhead(int letter) {
            int slipped = letterSlips(letter);
            int ahead = 0;
            for (int rival = 0; rival < KEYS; rival++) {
                int rivalSlipped = letterSlips(rival);
                if (rivalSlipped > slipped || rivalSlipped == slipped && rival < letter) {
                    ahead++;
                }
            }
            return ahead;
        }

        private int letterSlips(int letter) {
            return at(keySlips, at(keys, letter));
        }
    }

    /** A contest. The layouts that the students had when it began are kept as the times of the text by them. */
    private static final class Contest {
        /** 0 for who is not of it. */
        private final int[] times = new int[MOST_STUDENTS];
        /** 0 for who has no result. */
        private final int[] ticks = new int[MOST_STUDENTS];
        private final int[] scores = new int[MOST_STUDENTS];

        private boolean hasResult(int student) {
            return at(ticks, student) > 0;
        }

        private int told(int student, int what) {
            switch (what) {
                case TICKS:
                    return at(ticks, student);
                case SCORE:
                    return at(scores, student);
                default:
                    return rankOf(student);
            }
        }

        private int rankOf(int student) {
            int score = at(scores, student);
            int ahead = 0;
            for (int rival = 0; rival < MOST_STUDENTS; rival++) {
                int rivalScore = at(scores, rival);
                if (hasResult(rival) && (rivalScore < score || rivalScore == score && rival < student)) {
                    ahead++;
                }
            }
            return ahead;
        }

        private int holderOf(int rank) {
            for (int student = 0; student < MOST_STUDENTS; student++) {
                if (hasResult(student) && rankOf(student) == rank) {
                    return student;
                }
            }
            return NONE;
        }
    }
}
