import java.io.IOException;
import java.nio.charset.StandardCharsets;
import java.nio.file.Files;
import java.nio.file.Path;
import java.util.ArrayList;
import java.util.HashMap;
import java.util.List;
import java.util.Map;
import java.util.regex.Matcher;
import java.util.regex.Pattern;

/** README.md says what holds: its example's answers, the document's calls with what they refuse, the constants. */
public final class ReadmeTest {
    /** A call of the example that tells its answer, with the variable that keeps it, if there is one. */
    private static final Pattern STEP =
        Pattern.compile("^(?:int (\\w+) = )?school\\.(\\w+)\\(([^)]*)\\);\\s+// (-?\\w+)(?::.*)?$");
    /** A call of the document's face, without the constructor. */
    private static final Pattern FACE =
        Pattern.compile("(?m)^    public (?:int|boolean) (\\w+)\\(([^)]*)\\)(?: throws ([^;]+))?;$");
    private static final Pattern ROW = Pattern.compile("(?m)^\\| `(\\w+\\([^`]*\\))` \\|.*\\| ([^|]+) \\|$");
    private static final Pattern THROWN = Pattern.compile("`(\\w+Exception)`: ");
    private static final Pattern CONSTANTS = Pattern.compile("(?m)^    public static final int ([^;]+);$");

    private static int wrong = 0;

    public static void main(String[] args) throws IOException {
        if (args.length < 3) {
            report("the paths of the source, the document and README.md are wanted as arguments");
        } else {
            String document = Files.readString(Path.of(args[1]), StandardCharsets.UTF_8);
            String readme = Files.readString(Path.of(args[2]), StandardCharsets.UTF_8);
            exampleHolds(readme);
            same("calls", callsOf(document), rowsOf(readme));
            constantsStand(document, readme);
        }
        System.out.println(wrong == 0 ? "README.md says what holds" : wrong + " faults");
        if (wrong != 0) {
            System.exit(1);
        }
    }

    private static void report(String line) {
        wrong++;
        System.out.println(line);
    }

    private static void exampleHolds(String readme) {
        Matcher example = Pattern.compile("(?s)```java\n(.*?)```").matcher(readme);
        String[] lines = example.find() ? example.group(1).split("\n") : new String[] {""};
        if (!lines[0].equals("Homekeys school = new Homekeys();")) {
            report("there is no example that begins with a new object");
        }
        School school = new School();
        Map<String, Long> kept = new HashMap<>();
        for (int i = 1; i < lines.length; i++) {
            Matcher step = STEP.matcher(lines[i]);
            if (step.matches()) {
                long answer = answerHolds(school, kept, step);
                if (step.group(1) != null) {
                    kept.put(step.group(1), answer);
                }
            } else {
                report("the example has a line that tells no answer: " + lines[i]);
            }
        }
    }

    private static long answerHolds(School school, Map<String, Long> kept, Matcher step) {
        String[] words = step.group(3).isEmpty() ? new String[0] : step.group(3).split(", ");
        int[] with = new int[words.length];
        for (int i = 0; i < with.length; i++) {
            with[i] = kept.containsKey(words[i]) ? kept.get(words[i]).intValue() : Integer.parseInt(words[i]);
        }
        long answer = school.answer(step.group(2), with);
        boolean truth = step.group(2).equals("press");
        String said = truth && answer <= 1 && answer >= 0 ? String.valueOf(answer == 1) : Calls.said(answer);
        if (!said.equals(step.group(4))) {
            report(Calls.text(step.group(2), with) + " answers " + said + ", the example says " + step.group(4));
        }
        return answer;
    }

    /** Each call of the document's face, with its parameters' names and its exceptions, in its order. */
    private static List<String> callsOf(String document) {
        List<String> calls = new ArrayList<>();
        Matcher face = FACE.matcher(document);
        while (face.find()) {
            String thrown = face.group(3) == null ? "nothing" : face.group(3);
            calls.add(face.group(1) + "(" + face.group(2).replace("int ", "") + ") refuses " + thrown);
        }
        return calls;
    }

    /** The same of the tables. */
    private static List<String> rowsOf(String readme) {
        List<String> calls = new ArrayList<>();
        Matcher row = ROW.matcher(readme);
        while (row.find()) {
            List<String> thrown = new ArrayList<>();
            Matcher name = THROWN.matcher(row.group(2));
            while (name.find()) {
                thrown.add(name.group(1));
            }
            calls.add(row.group(1) + " refuses " + (thrown.isEmpty() ? row.group(2) : String.join(", ", thrown)));
        }
        return calls;
    }

    private static void constantsStand(String document, String readme) {
        Matcher line = CONSTANTS.matcher(document);
        List<String> due = new ArrayList<>();
        while (line.find()) {
            due.addAll(List.of(line.group(1).split(", ")));
        }
        List<String> told = new ArrayList<>();
        Matcher row = Pattern.compile("(?m)^\\| `(\\w+ = -?\\d+)` \\|").matcher(readme);
        while (row.find()) {
            told.add(row.group(1));
        }
        same("constants", due, told);
    }

    private static void same(String what, List<String> due, List<String> told) {
        if (due.isEmpty()) {
            report("the document's " + what + " were not found");
        }
        for (int i = 0; i < Math.max(due.size(), told.size()); i++) {
            String dueHere = i < due.size() ? due.get(i) : "none";
            String toldHere = i < told.size() ? told.get(i) : "none";
            if (!dueHere.equals(toldHere)) {
                report("of the " + what + " README.md has " + toldHere + ", due is " + dueHere);
                return;
            }
        }
    }
}
