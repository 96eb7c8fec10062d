import java.io.IOException;
import java.lang.reflect.Method;
import java.nio.charset.StandardCharsets;
import java.nio.file.Files;
import java.nio.file.Path;
import java.util.List;
import java.util.Set;
import java.util.TreeSet;
import java.util.regex.Matcher;
import java.util.regex.Pattern;

/**
 * Runs the tests of the document's sentences, then reads the document: each of them must quote a sentence of it, and
 * each sentence that names a boundary must have one.
 */
public final class SentenceTest {
    private static final String CHANGES_NOTHING = "A call that throws an exception changes nothing.";
    private static final String FIRST_NAMED =
        "If several apply, the one that is named first in the throws clause is thrown.";
    /** Sentences that name no boundary: how they begin. */
    private static final List<String> WITHOUT_BOUNDARY = List.of(
        "A school of typing:", "Ahead of the calls", "`student`: its number", "`contest`: its number", "Tells a student.",
        "Swaps two keys.", "Lets a student press a key.", "Tells how often a student slipped", "Tells a result.",
        "Tells of a student in a contest.", "Returns on which key a letter is.", "Returns which letter is on a key.",
        "Returns the key.", "Returns the letter.", "Returns how often.", "Returns as told.", "Returns the score.",
        "Returns the time.", "Returns a letter of the history.", "Returns a letter of a lesson.", "Returns who has a rank.",
        "Returns the time of the history by the layout.", "Returns what a swap would save.", "Returns the best swap.");

    public static void main(String[] args) throws IOException, IllegalAccessException {
        List<Method> tests = Sentences.testsOf(TermSentences.class, PromiseSentences.class);
        Sentences.run(tests);
        if (args.length < 2) {
            Sentences.report("the paths of the source and of the document are wanted as arguments");
        } else {
            compare(tests, Files.readString(Path.of(args[1]), StandardCharsets.UTF_8));
        }
        if (Sentences.wrong() != 0) {
            System.out.println(Sentences.wrong() + " faults");
            System.exit(1);
        }
        System.out.println(tests.size() + " tests of sentences hold");
    }

    private static void compare(List<Method> tests, String document) {
        Set<String> quoted = new TreeSet<>();
        Set<String> terms = termsOf(document);
        for (Method test : tests) {
            Sentence sentence = test.getAnnotation(Sentence.class);
            quoted.add(sentence.value());
            quoted.add(sentence.promise() + " " + sentence.value());
            boolean ofPromise = sentencesOf(sectionOf(document, sentence.promise())).contains(sentence.value());
            if (!ofPromise && !terms.contains(sentence.value())) {
                Sentences.report(test.getName() + " quotes what the document does not say: " + sentence.value());
            }
        }
        for (String sentence : terms) {
            wantQuoted(quoted, sentence);
        }
        for (int promise = 1; !sectionOf(document, promise).isEmpty(); promise++) {
            Set<String> sentences = sentencesOf(sectionOf(document, promise));
            int exceptions = 0;
            for (String sentence : sentences) {
                exceptions += sentence.startsWith("Throws ") ? 1 : 0;
                wantQuoted(quoted, promise + " " + sentence);
            }
            if (exceptions > 0) {
                wantQuoted(quoted, promise + " " + CHANGES_NOTHING);
            }
            if (exceptions > 1) {
                wantQuoted(quoted, promise + " " + FIRST_NAMED);
            }
        }
    }

    private static void wantQuoted(Set<String> quoted, String sentence) {
        String words = sentence.replaceFirst("^\\d+ ", "");
        boolean free = WITHOUT_BOUNDARY.stream().anyMatch(words::startsWith);
        if (!free && !quoted.contains(sentence)) {
            Sentences.report("no test of the sentence: " + sentence);
        }
    }

    /** The sentences ahead of the promises, but for headings and for the face. */
    private static Set<String> termsOf(String document) {
        String ahead = document.replaceAll("(?s)```.*?```", "").replaceAll("(?s)\n## Promise 1:.*", "");
        Set<String> sentences = new TreeSet<>();
        for (String line : ahead.split("\n")) {
            if (line.endsWith(".") && !line.startsWith("#")) {
                sentences.addAll(List.of(line.split("(?<=\\.) (?=[A-Z])")));
            }
        }
        return sentences;
    }

    /** What stands below a promise's heading; empty if there is none. */
    private static String sectionOf(String document, int promise) {
        Matcher matcher = Pattern.compile("(?s)\n## Promise " + promise + ": [^\n]*\n(.*?)(?=\n## |$)").matcher(document);
        return matcher.find() ? matcher.group(1) : "";
    }

    /** A line each, without the face's line or the mark of a list ahead of it. */
    private static Set<String> sentencesOf(String section) {
        Set<String> sentences = new TreeSet<>();
        for (String line : section.split("\n")) {
            if (!line.isBlank()) {
                sentences.add(line.replaceFirst("^- ", "").replaceFirst("^`[^`]*\\([^`]*`: ", ""));
            }
        }
        return sentences;
    }
}
