/** A Homekeys whose calls are made by their names, and counted: the document promises nothing behind the 512th. */
final class School {
    static final int MOST_CALLS = 512;

    private final Homekeys made = new Homekeys();
    private int calls = 0;

    long answer(String name, int... with) {
        if (calls == MOST_CALLS) {
            throw new AssertionError("a test makes more than 512 calls of one object");
        }
        calls++;
        return Calls.answer(made, name, with);
    }

    int callsLeft() {
        return MOST_CALLS - calls;
    }

    School students(int count) {
        for (int i = 0; i < count; i++) {
            answer("student");
        }
        return this;
    }

    /** Types letters rightly, each on the key that it is on. */
    School types(int student, int... letters) {
        for (int letter : letters) {
            answer("press", student, letter, (int) answer("keyOf", student, letter));
        }
        return this;
    }

    /** Types a letter rightly, again and again. */
    School repeats(int student, int letter, int times) {
        int key = (int) answer("keyOf", student, letter);
        for (int i = 0; i < times; i++) {
            answer("press", student, letter, key);
        }
        return this;
    }

    /** Lets a student slip at a letter, as often as told. */
    School slips(int student, int letter, int times) {
        int wrongKey = ((int) answer("keyOf", student, letter) + 1) % 12;
        for (int i = 0; i < times; i++) {
            answer("press", student, letter, wrongKey);
        }
        return this;
    }

    School swaps(int student, int key, int other) {
        answer("swap", student, key, other);
        return this;
    }

    /** Begins a contest of a text. */
    School contestOf(int... letters) {
        drafts(letters);
        answer("contest");
        return this;
    }

    School drafts(int... letters) {
        for (int letter : letters) {
            answer("draft", letter);
        }
        return this;
    }
}
