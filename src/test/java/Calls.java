/** The calls of the face by their names, for tests that make them from names and numbers. */
final class Calls {
    /** What a call answers that throws: numbers that no call returns. */
    static final long INDEX = Long.MIN_VALUE, ARGUMENT = INDEX + 1, STATE = INDEX + 2, OTHER = INDEX + 3;

    private Calls() {
    }

    /** A boolean answers 1 or 0. */
    static long answer(Homekeys x, String name, int... a) {
        try {
            switch (name) {
                case "student": return x.student();
                case "carry": return x.carry(a[0], a[1]);
                case "swap": return x.swap(a[0], a[1], a[2]);
                case "keyOf": return x.keyOf(a[0], a[1]);
                case "letterOn": return x.letterOn(a[0], a[1]);
                case "press": return x.press(a[0], a[1], a[2]) ? 1 : 0;
                case "slips": return x.slips(a[0], a[1], a[2]);
                case "pair": return x.pair(a[0], a[1], a[2]);
                case "pressed": return x.pressed(a[0]);
                case "history": return x.history(a[0], a[1]);
                case "time": return x.time(a[0]);
                case "timeAnew": return x.timeAnew(a[0]);
                case "lesson": return x.lesson(a[0], a[1]);
                case "saves": return x.saves(a[0], a[1], a[2]);
                case "best": return x.best(a[0]);
                case "draft": return x.draft(a[0]);
                case "clear": return x.clear();
                case "contest": return x.contest();
                case "result": return x.result(a[0], a[1], a[2]);
                case "of": return x.of(a[0], a[1], a[2]);
                case "ranked": return x.ranked(a[0], a[1]);
                default: throw new AssertionError("no such call: " + name);
            }
        } catch (RuntimeException e) {
            return thrown(e);
        }
    }

    /** The very class counts: an exception of the machine's own, below a promised one, is another. */
    private static long thrown(RuntimeException e) {
        if (e.getClass() == IndexOutOfBoundsException.class) {
            return INDEX;
        }
        if (e.getClass() == IllegalArgumentException.class) {
            return ARGUMENT;
        }
        return e.getClass() == IllegalStateException.class ? STATE : OTHER;
    }

    static String text(String name, int... with) {
        StringBuilder text = new StringBuilder(name).append('(');
        for (int i = 0; i < with.length; i++) {
            text.append(i == 0 ? "" : ", ").append(with[i]);
        }
        return text.append(')').toString();
    }

    static String said(long answer) {
        if (answer == INDEX) {
            return "throws.IndexOutOfBoundsException";
        }
        if (answer == ARGUMENT) {
            return "throws.IllegalArgumentException";
        }
        if (answer == STATE) {
            return "throws.IllegalStateException";
        }
        return answer == OTHER ? "throws another exception" : Long.toString(answer);
    }
}
