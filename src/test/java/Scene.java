import java.util.ArrayList;
import java.util.List;
import java.util.function.Consumer;

/** A state of an object: calls that are made anew on a new object as often as it is wanted. */
final class Scene {
    static final Scene NEW = new Scene("a new object", 0, 0, x -> { });
    static final Scene SOME = new Scene("four students and a contest of three", 4, 1, Scene::some);
    static final Scene FULL = new Scene("all that there can be", 5, 6, Scene::full);
    static final Scene FULL_DRAFT = new Scene("a student and a draft of 24", 1, 0,
        x -> x.students(1).drafts(0, 6, 0, 6, 0, 6, 0, 6, 0, 6, 0, 6, 0, 6, 0, 6, 0, 6, 0, 6, 0, 6, 0, 6));
    static final Scene NO_STUDENTS = new Scene("a draft without students", 0, 0, x -> x.drafts(0, 6));
    static final Scene SIX_CONTESTS = new Scene("six contests and a draft", 1, 6, x -> {
        x.students(1);
        for (int letter = 0; letter < 6; letter++) {
            x.contestOf(letter);
        }
        x.drafts(2, 8);
    });
    static final Scene[] EACH = {NEW, SOME, FULL, FULL_DRAFT, NO_STUDENTS, SIX_CONTESTS};

    private static final int[] FAR = {Integer.MIN_VALUE, -6, -1, 5, 6, 12, Integer.MAX_VALUE};

    private final String name;
    final int students;
    final int contests;
    private final Consumer<School> calls;
    private List<String> told = null;

    private Scene(String name, int students, int contests, Consumer<School> calls) {
        this.name = name;
        this.students = students;
        this.contests = contests;
        this.calls = calls;
    }

    @Override
    public String toString() {
        return name;
    }

    /** The student 3 is not of the contest, the student 1 has its result, and the draft has two letters. */
    private static void some(School x) {
        x.students(3).contestOf(0, 6, 1);
        x.answer("result", 0, 1, 50);
        x.students(1).swaps(0, 0, 11);
        x.answer("carry", 1, 1);
        for (int i = 0; i < 12; i++) {
            x.answer("press", i % 3, i * 5 % 12, i * 7 % 12);
        }
        x.drafts(3, 9);
    }

    /** The contest 0 is of two students, the others of five; histories of 33, 30, 29, 5 and 0 letters. */
    private static void full(School x) {
        x.students(2).contestOf(5);
        x.answer("result", 0, 0, 99999);
        x.students(3);
        int[] typed = {33, 30, 29, 5, 0};
        for (int student = 0; student < 5; student++) {
            x.swaps(student, student, 11 - student);
            x.answer("carry", student, student % 2);
            for (int i = 0; i < typed[student]; i++) {
                x.answer("press", student, (i * 5 + student) % 12, i * 7 % 12);
            }
        }
        x.swaps(1, 2, 7);
        for (int contest = 1; contest < 6; contest++) {
            x.contestOf(contest, contest + 6, 3);
        }
        for (int student = 0; student < 5; student++) {
            x.answer("result", 5, student, 10 + student % 2);
        }
        x.answer("result", 3, 4, 1);
        for (int i = 0; i < 24; i++) {
            x.drafts(i * 7 % 12);
        }
    }

    School played() {
        School school = new School();
        calls.accept(school);
        return school;
    }

    /** Numbers that no student has in this state. */
    List<Integer> strangers() {
        return missing(students, 5);
    }

    /** Numbers that no contest has in this state. */
    List<Integer> contestsNotHeld() {
        return missing(contests, 6);
    }

    private static List<Integer> missing(int there, int most) {
        List<Integer> numbers = new ArrayList<>();
        for (int number = there; number < most; number++) {
            numbers.add(number);
        }
        for (int number : FAR) {
            if (number < 0 || number >= most) {
                numbers.add(number);
            }
        }
        return numbers;
    }

    /** The first thing that is told otherwise behind a call than without it; null if nothing is. */
    String changedBy(String call, int... with) {
        if (told == null) {
            told = allTold(this::played);
        }
        List<String> behind = allTold(() -> {
            School school = played();
            school.answer(call, with);
            return school;
        });
        for (int i = 0; i < told.size(); i++) {
            if (!told.get(i).equals(behind.get(i))) {
                return behind.get(i) + ", without it " + told.get(i);
            }
        }
        return null;
    }

    private interface Maker {
        School make();
    }

    /**
     * All that can be asked. Each group of questions goes to an object of its own, for 512 calls are promised alone,
     * and some questions change what they ask for.
     */
    private static List<String> allTold(Maker maker) {
        List<String> lines = new ArrayList<>();
        for (int student = 0; student < 5; student++) {
            tellStudent(new Teller(maker.make(), lines), student);
            tellPairs(new Teller(maker.make(), lines), student);
            tellSaves(new Teller(maker.make(), lines), student);
        }
        tellContests(new Teller(maker.make(), lines));
        new Teller(maker.make(), lines).ask("clear");
        new Teller(maker.make(), lines).ask("draft", 0);
        new Teller(maker.make(), lines).ask("student");
        for (int variant = 0; variant < 4; variant++) {
            tellDraft(new Teller(maker.make(), lines), variant);
        }
        return lines;
    }

    private static void tellStudent(Teller teller, int student) {
        for (int i = 0; i < 12; i++) {
            teller.ask("keyOf", student, i);
            teller.ask("letterOn", student, i);
        }
        int[] groups = {12, 6, 2, 1};
        for (int what = 0; what < 4; what++) {
            for (int which = 0; which < groups[what]; which++) {
                teller.ask("slips", student, what, which);
            }
        }
        for (int place = 0; place <= 30; place++) {
            teller.ask("history", student, place);
        }
        for (int place = 0; place < 3; place++) {
            teller.ask("lesson", student, place);
        }
        teller.ask("pressed", student);
        teller.ask("time", student);
        teller.ask("timeAnew", student);
        teller.ask("best", student);
        teller.ask("carry", student, 0);
    }

    private static void tellPairs(Teller teller, int student) {
        for (int first = 0; first < 12; first++) {
            for (int letter = 0; letter < 12; letter++) {
                teller.ask("pair", student, first, letter);
            }
        }
        // A slip more tells which letter is ahead of the next one, and whether there is one.
        teller.ask("press", student, 4, 5);
        teller.ask("press", student, 4, 6);
        for (int first = 0; first < 12; first++) {
            teller.ask("pair", student, first, 4);
        }
    }

    private static void tellSaves(Teller teller, int student) {
        for (int key = 0; key < 12; key++) {
            for (int other = key + 1; other < 12; other++) {
                teller.ask("saves", student, key, other);
            }
        }
    }

    private static void tellContests(Teller teller) {
        for (int contest = 0; contest < 6; contest++) {
            for (int student = 0; student < 5; student++) {
                for (int what = 0; what < 4; what++) {
                    teller.ask("of", contest, student, what);
                }
            }
            for (int rank = 0; rank < 6; rank++) {
                teller.ask("ranked", contest, rank);
            }
        }
    }

    /** The draft's letters, by the times that they take by several layouts. */
    private static void tellDraft(Teller teller, int variant) {
        teller.ask("student");
        teller.ask("student");
        for (int student = 0; student < 5; student++) {
            teller.ask("swap", student, (student + variant) % 12, (2 * student + 3 * variant + 7) % 12);
        }
        teller.ask("contest");
        for (int contest = 0; contest < 6; contest++) {
            for (int student = 0; student < 5; student++) {
                teller.ask("of", contest, student, 0);
            }
        }
    }

    private static final class Teller {
        private final School school;
        private final List<String> lines;

        Teller(School school, List<String> lines) {
            this.school = school;
            this.lines = lines;
        }

        void ask(String name, int... with) {
            long answer = school.answer(name, with);
            lines.add(Calls.text(name, with) + " answers " + Calls.said(answer));
        }
    }
}
