import java.lang.reflect.InvocationTargetException;
import java.lang.reflect.Method;
import java.util.ArrayList;
import java.util.Comparator;
import java.util.List;

/** What the tests of sentences share: a look at an answer, and a report by the promise and the sentence. */
abstract class Sentences {
    static final long INDEX = Calls.INDEX, ARGUMENT = Calls.ARGUMENT, STATE = Calls.STATE;
    static final int NONE = -1, LOWEST = Integer.MIN_VALUE, HIGHEST = Integer.MAX_VALUE;

    /** The test that runs; null when none does. */
    private static Method now;
    private static int wrong = 0;

    /** The tests of classes, ordered by promise. */
    static List<Method> testsOf(Class<?>... classes) {
        List<Method> tests = new ArrayList<>();
        for (Class<?> type : classes) {
            for (Method method : type.getDeclaredMethods()) {
                if (method.isAnnotationPresent(Sentence.class)) {
                    tests.add(method);
                }
            }
        }
        tests.sort(Comparator.<Method>comparingInt(m -> m.getAnnotation(Sentence.class).promise())
            .thenComparing(Method::getName));
        return tests;
    }

    static void run(List<Method> tests) throws IllegalAccessException {
        for (Method test : tests) {
            now = test;
            try {
                test.invoke(null);
            } catch (InvocationTargetException e) {
                report("broke off: " + e.getCause());
            }
        }
        now = null;
    }

    static void report(String line) {
        wrong++;
        System.out.println(now == null ? line : heading(now.getAnnotation(Sentence.class)) + line);
    }

    private static String heading(Sentence sentence) {
        return "promise " + sentence.promise() + ", \"" + sentence.value() + "\", " + now.getName() + ": ";
    }

    static int wrong() {
        return wrong;
    }

    static void due(School x, long want, String name, int... with) {
        due("", x, want, name, with);
    }

    private static void due(String where, School x, long want, String name, int... with) {
        long got = x.answer(name, with);
        if (got != want) {
            report(where + Calls.text(name, with) + " answered " + Calls.said(got) + ", due is " + Calls.said(want));
        }
    }

    /** In a state a call is refused, again too, and nothing has changed behind it. */
    static void refuses(Scene scene, long want, String name, int... with) {
        String where = "behind " + scene + " ";
        School x = scene.played();
        due(where, x, want, name, with);
        due(where, x, want, name, with);
        String changed = scene.changedBy(name, with);
        if (changed != null) {
            report(where + Calls.text(name, with) + " changed something: " + changed);
        }
    }

    /** A call is refused in each state for each number that no student has there. */
    static void refusesStrangers(String name, int... rest) {
        for (Scene scene : Scene.EACH) {
            for (int stranger : scene.strangers()) {
                int[] with = new int[rest.length + 1];
                with[0] = stranger;
                System.arraycopy(rest, 0, with, 1, rest.length);
                refuses(scene, INDEX, name, with);
            }
        }
    }
}
