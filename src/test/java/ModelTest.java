import java.util.ArrayList;
import java.util.Comparator;
import java.util.List;

/**
 * Runs of mixed calls, right and wrong, against a model that works otherwise than the program: it keeps what was
 * done as a list of events and tells every answer by going through them again. The runs are the same each time.
 */
public final class ModelTest {
    private static final int RUNS = 600, CALLS = 512, MOST_REPORTS = 20;
    private static final long INDEX = Calls.INDEX, ARGUMENT = Calls.ARGUMENT, STATE = Calls.STATE;
    private static final String[] NAMES = {"student", "carry", "swap", "keyOf", "letterOn", "press", "slips", "pair",
        "pressed", "history", "time", "timeAnew", "lesson", "saves", "best", "draft", "clear", "contest", "result",
        "of", "ranked"};
    private static final int[] COUNTS = {0, 2, 3, 2, 2, 3, 3, 3, 1, 2, 1, 1, 2, 3, 1, 1, 0, 0, 3, 3, 2};
    /** How often a call is made: presses often, so that histories fill; contests seldom, so that they last. */
    private static final int[] WEIGHTS = {1, 3, 8, 3, 3, 60, 12, 8, 2, 4, 4, 4, 6, 8, 3, 12, 1, 2, 8, 8, 6};
    private static final int[] FAR = {Integer.MIN_VALUE, Integer.MAX_VALUE, -1, -2, 1 << 16, -(1 << 31) + 12};

    private static long seed = 20261120L;

    public static void main(String[] args) {
        int wrong = 0;
        int[] answered = new int[NAMES.length];
        int[] thrown = new int[NAMES.length];
        for (int run = 0; run < RUNS; run++) {
            wrong += wrongIn(run, answered, thrown);
        }
        for (int call = 0; call < NAMES.length; call++) {
            boolean maySucceedOnly = NAMES[call].equals("clear");
            if (answered[call] == 0 || thrown[call] == 0 && !maySucceedOnly) {
                wrong++;
                System.out.println(NAMES[call] + " answered " + answered[call] + ", threw " + thrown[call]);
            }
        }
        System.out.println(wrong == 0 ? RUNS + " runs are as the model has them" : wrong + " answers differ");
        if (wrong != 0) {
            System.exit(1);
        }
    }

    private static int wrongIn(int run, int[] answered, int[] thrown) {
        Homekeys program = new Homekeys();
        Model model = new Model();
        List<String> done = new ArrayList<>();
        int students = run % 6;
        for (int i = 0; i < CALLS; i++) {
            int call = i < students ? 0 : pick(WEIGHTS);
            int[] with = arguments(call, model);
            long got = Calls.answer(program, NAMES[call], with);
            long want = model.answer(call, with);
            done.add(NAMES[call] + java.util.Arrays.toString(with) + " = " + want);
            if (got != want) {
                System.out.println("run " + run + ": " + done.get(i) + " by the model, but " + got
                    + "; ahead of it " + done.subList(Math.max(0, i - 8), i));
                return 1;
            }
            if (want <= STATE) {
                thrown[call]++;
            } else {
                answered[call]++;
            }
        }
        return 0;
    }

    private static int below(int bound) {
        seed = seed * 6364136223846793005L + 1442695040888963407L;
        return (int) Long.remainderUnsigned(seed >>> 33, bound);
    }

    private static int pick(int[] weights) {
        int sum = 0;
        for (int weight : weights) {
            sum += weight;
        }
        int left = below(sum);
        int chosen = 0;
        while (left >= weights[chosen]) {
            left -= weights[chosen++];
        }
        return chosen;
    }

    private static int[] arguments(int call, Model model) {
        int[] with = new int[COUNTS[call]];
        for (int i = 0; i < with.length; i++) {
            int bound = boundOf(call, i, model);
            int kind = below(60);
            with[i] = kind == 0 ? FAR[below(FAR.length)] : kind == 1 ? bound : kind == 2 ? -1 : below(bound);
        }
        if (NAMES[call].equals("press") && model.known(with[0]) && Model.in(with[1], 12) && below(3) > 0) {
            with[2] = model.students.get(with[0]).keyOf(with[1]);
        }
        return with;
    }

    /** The bound above what an argument mostly is. */
    private static int boundOf(int call, int argument, Model model) {
        String name = NAMES[call];
        boolean ofContest = name.equals("result") || name.equals("of") || name.equals("ranked");
        if (ofContest && argument == 0) {
            return Math.max(1, model.contests.size());
        }
        if (ofContest && argument == 1 || argument == 0 && !name.equals("draft")) {
            return Math.max(1, model.students.size());
        }
        switch (name) {
            case "carry": return 2;
            case "slips": return argument == 1 ? 4 : below(2) == 0 ? 2 : 12;
            case "history": return 32;
            case "lesson": return 100;
            case "result": return below(4) == 0 ? 100000 : 40;
            case "of": return 4;
            default: return 12;
        }
    }

    /** What a student did: TYPED letter key, SWAPPED key other, CARRIED way. */
    private static final class Typist {
        static final int TYPED = 0, SWAPPED = 1, CARRIED = 2;
        final List<int[]> events = new ArrayList<>();

        /** The letters by their keys, behind all events. */
        List<Integer> layout() {
            List<Integer> layout = new ArrayList<>();
            for (int key = 0; key < 12; key++) {
                layout.add(key);
            }
            for (int[] event : events) {
                if (event[0] == SWAPPED) {
                    java.util.Collections.swap(layout, event[1], event[2]);
                }
            }
            return layout;
        }

        int keyOf(int letter) {
            return layout().indexOf(letter);
        }

        int way() {
            int way = 0;
            for (int[] event : events) {
                way = event[0] == CARRIED ? event[1] : way;
            }
            return way;
        }

        List<Integer> allTyped() {
            List<Integer> letters = new ArrayList<>();
            for (int[] event : events) {
                if (event[0] == TYPED) {
                    letters.add(event[1]);
                }
            }
            return letters;
        }

        List<Integer> kept() {
            List<Integer> all = allTyped();
            return all.subList(Math.max(0, all.size() - 30), all.size());
        }

        /** How often each key slipped: each slip is a stone on a key, and wanders with the letter if so told. */
        int[] slipsByKey() {
            List<Integer> stones = new ArrayList<>();
            List<Integer> layout = new ArrayList<>();
            for (int key = 0; key < 12; key++) {
                layout.add(key);
            }
            boolean byLetter = false;
            for (int[] event : events) {
                if (event[0] == CARRIED) {
                    byLetter = event[1] == 1;
                } else if (event[0] == TYPED) {
                    if (layout.get(event[2]) != event[1]) {
                        stones.add(layout.indexOf(event[1]));
                    }
                } else {
                    java.util.Collections.swap(layout, event[1], event[2]);
                    for (int i = 0; byLetter && i < stones.size(); i++) {
                        int on = stones.get(i);
                        stones.set(i, on == event[1] ? event[2] : on == event[2] ? event[1] : on);
                    }
                }
            }
            int[] slips = new int[12];
            for (int on : stones) {
                slips[on]++;
            }
            return slips;
        }

        int pair(int first, int letter) {
            List<Integer> layout = new ArrayList<>();
            for (int key = 0; key < 12; key++) {
                layout.add(key);
            }
            int ahead = -1;
            int sum = 0;
            for (int[] event : events) {
                if (event[0] == SWAPPED) {
                    java.util.Collections.swap(layout, event[1], event[2]);
                } else if (event[0] == TYPED) {
                    boolean slip = layout.get(event[2]) != event[1];
                    sum += slip && ahead == first && event[1] == letter ? 1 : 0;
                    ahead = event[1];
                }
            }
            return sum;
        }

        int saves(int key, int other) {
            List<Integer> now = layout();
            List<Integer> then = new ArrayList<>(now);
            java.util.Collections.swap(then, key, other);
            return time(kept(), now) - time(kept(), then);
        }

        List<Integer> slippingLetters() {
            int[] slips = slipsByKey();
            List<Integer> layout = layout();
            List<Integer> letters = new ArrayList<>(layout);
            letters.sort(Comparator.<Integer>comparingInt(l -> -slips[layout.indexOf(l)]).thenComparingInt(l -> l));
            return letters;
        }

        int best() {
            List<int[]> swaps = new ArrayList<>();
            for (int code = 0; code < 144; code++) {
                if (code / 12 < code % 12 && saves(code / 12, code % 12) > 0) {
                    swaps.add(new int[] {-saves(code / 12, code % 12), code});
                }
            }
            swaps.sort(Comparator.<int[]>comparingInt(s -> s[0]).thenComparingInt(s -> s[1]));
            return swaps.isEmpty() ? -1 : swaps.get(0)[1];
        }
    }

    private static final class Held {
        final List<Integer> text = new ArrayList<>();
        final List<List<Integer>> layouts = new ArrayList<>();
        /** Number and ticks of those who have a result, in the order in which they came. */
        final List<int[]> results = new ArrayList<>();

        int timeOf(int student) {
            return time(text, layouts.get(student));
        }

        int[] resultOf(int student) {
            for (int[] result : results) {
                if (result[0] == student) {
                    return result;
                }
            }
            return null;
        }

        int score(int[] result) {
            return (int) Math.floor(1000.0 * result[1] / timeOf(result[0]));
        }

        List<Integer> ranks() {
            List<int[]> sorted = new ArrayList<>(results);
            sorted.sort(Comparator.<int[]>comparingInt(this::score).thenComparingInt(r -> r[0]));
            List<Integer> numbers = new ArrayList<>();
            for (int[] result : sorted) {
                numbers.add(result[0]);
            }
            return numbers;
        }
    }

    private static int time(List<Integer> text, List<Integer> layout) {
        int time = text.isEmpty() ? 0 : 2;
        for (int i = 1; i < text.size(); i++) {
            time += step(layout.indexOf(text.get(i - 1)), layout.indexOf(text.get(i)));
        }
        return time;
    }

    private static int step(int from, int to) {
        boolean sameFinger = (from - to) % 6 == 0;
        boolean sameHand = from % 6 < 3 == to % 6 < 3;
        return from == to ? 3 : sameFinger ? 7 : sameHand ? 4 : 2;
    }

    private static final class Model {
        final List<Typist> students = new ArrayList<>();
        final List<Held> contests = new ArrayList<>();
        private List<Integer> draft = new ArrayList<>();

        static boolean in(int value, int bound) {
            return value >= 0 && value < bound;
        }

        boolean known(int student) {
            return in(student, students.size());
        }

        long answer(int call, int[] a) {
            switch (NAMES[call]) {
                case "student": return student();
                case "draft": return draft(a[0]);
                case "clear": return clear();
                case "contest": return contest();
                case "result":
                case "of":
                case "ranked": return in(a[0], contests.size()) ? ofContest(call, contests.get(a[0]), a) : INDEX;
                default: return known(a[0]) ? ofStudent(call, students.get(a[0]), a) : INDEX;
            }
        }

        private long student() {
            if (students.size() == 5) {
                return STATE;
            }
            students.add(new Typist());
            return students.size() - 1;
        }

        private long draft(int letter) {
            if (!in(letter, 12)) {
                return INDEX;
            }
            if (draft.size() == 24) {
                return STATE;
            }
            draft.add(letter);
            return draft.size();
        }

        private long clear() {
            int before = draft.size();
            draft = new ArrayList<>();
            return before;
        }

        private long contest() {
            if (draft.isEmpty() || students.isEmpty() || contests.size() == 6) {
                return STATE;
            }
            Held held = new Held();
            held.text.addAll(draft);
            for (Typist typist : students) {
                held.layouts.add(typist.layout());
            }
            contests.add(held);
            clear();
            return contests.size() - 1;
        }

        private long ofContest(int call, Held held, int[] a) {
            if (NAMES[call].equals("ranked")) {
                return a[1] < 0 ? INDEX : a[1] < held.ranks().size() ? held.ranks().get(a[1]) : -1;
            }
            if (!in(a[1], held.layouts.size())) {
                return INDEX;
            }
            int[] result = held.resultOf(a[1]);
            if (NAMES[call].equals("result")) {
                if (a[2] < 1 || a[2] > 99999) {
                    return ARGUMENT;
                }
                if (result != null) {
                    return STATE;
                }
                held.results.add(new int[] {a[1], a[2]});
                return held.score(held.resultOf(a[1]));
            }
            switch (a[2]) {
                case 0: return held.timeOf(a[1]);
                case 1: return result == null ? -1 : result[1];
                case 2: return result == null ? -1 : held.score(result);
                case 3: return held.ranks().indexOf(a[1]);
                default: return ARGUMENT;
            }
        }

        private long ofStudent(int call, Typist typist, int[] a) {
            switch (NAMES[call]) {
                case "carry": return carry(typist, a[1]);
                case "swap": return swap(typist, a[1], a[2]);
                case "keyOf": return in(a[1], 12) ? typist.keyOf(a[1]) : INDEX;
                case "letterOn": return in(a[1], 12) ? typist.layout().get(a[1]) : INDEX;
                case "press": return press(typist, a[1], a[2]);
                case "slips": return slips(typist, a[1], a[2]);
                case "pair": return in(a[1], 12) && in(a[2], 12) ? typist.pair(a[1], a[2]) : INDEX;
                case "pressed": return typist.allTyped().size();
                case "history": return a[1] < 0 ? INDEX : a[1] < typist.kept().size() ? typist.kept().get(a[1]) : -1;
                case "lesson": return in(a[1], 100) ? typist.slippingLetters().get(a[1] % 3) : INDEX;
                case "saves": return twoKeys(a) ? typist.saves(a[1], a[2]) : notTwoKeys(a);
                case "best": return typist.best();
                default: return time(typist.kept(), typist.layout());
            }
        }

        private static boolean twoKeys(int[] a) {
            return in(a[1], 12) && in(a[2], 12) && a[1] != a[2];
        }

        private static long notTwoKeys(int[] a) {
            return in(a[1], 12) && in(a[2], 12) ? ARGUMENT : INDEX;
        }

        private static long carry(Typist typist, int way) {
            if (!in(way, 2)) {
                return ARGUMENT;
            }
            int before = typist.way();
            typist.events.add(new int[] {Typist.CARRIED, way, 0});
            return before;
        }

        private static long swap(Typist typist, int key, int other) {
            int[] keys = {0, key, other};
            if (!twoKeys(keys)) {
                return notTwoKeys(keys);
            }
            long saved = typist.saves(key, other);
            typist.events.add(new int[] {Typist.SWAPPED, key, other});
            return saved;
        }

        private static long press(Typist typist, int letter, int key) {
            if (!in(letter, 12) || !in(key, 12)) {
                return INDEX;
            }
            typist.events.add(new int[] {Typist.TYPED, letter, key});
            return typist.keyOf(letter) == key ? 0 : 1;
        }

        private static long slips(Typist typist, int what, int which) {
            int[] groups = {12, 6, 2, 1};
            if (!in(what, 4) || !in(which, groups[what])) {
                return ARGUMENT;
            }
            int[] slips = typist.slipsByKey();
            int sum = 0;
            for (int key = 0; key < 12; key++) {
                int[] group = {key, key % 6, key % 6 < 3 ? 0 : 1, 0};
                sum += group[what] == which ? slips[key] : 0;
            }
            return sum;
        }
    }
}
