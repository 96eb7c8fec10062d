import java.lang.reflect.Constructor;
import java.lang.reflect.Field;
import java.lang.reflect.Method;
import java.lang.reflect.Modifier;
import java.nio.charset.StandardCharsets;
import java.nio.file.Files;
import java.nio.file.Path;
import java.util.ArrayList;
import java.util.List;
import java.util.Set;
import java.util.TreeSet;
import java.util.regex.Matcher;
import java.util.regex.Pattern;

/** The face of the class is the document's, and the source keeps to those rules of LANGUAGE.md that are easily seen. */
public final class FaceTest {
    private static final String INDEX = "IndexOutOfBoundsException", ARGUMENT = "IllegalArgumentException";
    private static final String STATE = "IllegalStateException";
    /** With the throws clauses, in whose order the document says which exception goes first. */
    private static final String[] FACE = {
        thrower("int student()", STATE),
        thrower("int carry(int,int)", INDEX, ARGUMENT),
        thrower("int swap(int,int,int)", INDEX, ARGUMENT),
        thrower("int keyOf(int,int)", INDEX),
        thrower("int letterOn(int,int)", INDEX),
        thrower("boolean press(int,int,int)", INDEX),
        thrower("int slips(int,int,int)", INDEX, ARGUMENT),
        thrower("int pair(int,int,int)", INDEX),
        thrower("int pressed(int)", INDEX),
        thrower("int history(int,int)", INDEX),
        thrower("int time(int)", INDEX),
        thrower("int timeAnew(int)", INDEX),
        thrower("int lesson(int,int)", INDEX),
        thrower("int saves(int,int,int)", INDEX, ARGUMENT),
        thrower("int best(int)", INDEX),
        thrower("int draft(int)", INDEX, STATE),
        "int clear()",
        thrower("int contest()", STATE),
        thrower("int result(int,int,int)", INDEX, ARGUMENT, STATE),
        thrower("int of(int,int,int)", INDEX, ARGUMENT),
        thrower("int ranked(int,int)", INDEX),
        "NONE", "BY_KEY", "BY_LETTER", "Homekeys()"};
    /** What rules 3 to 6 leave out, as patterns of the source without its comments and texts. */
    private static final String[] LEFT_OUT = {"->", "::", "\\bfinally\\b", "\\bsynchronized\\b", "\\bassert\\b",
        "\\bnative\\b", "\\bvolatile\\b", "\\bstatic\\s*\\{", "\\bpackage\\b", "\\btry\\b", "\\bcatch\\b", "\\bThread\\b",
        "\\bSystem\\.(?!arraycopy\\b)", "\\bMath\\.(?!(abs|min|max|floorDiv|floorMod)\\b)",
        "\\bArrays\\.(?!(fill|copyOf|copyOfRange)\\b)", "\\bprotected\\b", "Exact\\b", "\\bvar\\b"};
    private static final int LONGEST_METHOD = 60, MOST_FIELDS = 20, MOST_CLASSES = 12, MOST_PARAMETERS = 7;

    private static int wrong = 0;

    public static void main(String[] args) throws Exception {
        faceIsTheDocuments();
        for (Class<?> type : classes()) {
            classKeepsTheRules(type);
        }
        if (args.length == 0) {
            report("the source's path is wanted as the first argument");
        } else {
            sourceKeepsTheRules(Files.readString(Path.of(args[0]), StandardCharsets.UTF_8));
        }
        System.out.println(wrong == 0 ? "the face is the document's" : wrong + " faults");
        if (wrong != 0) {
            System.exit(1);
        }
    }

    private static void report(String line) {
        wrong++;
        System.out.println(line);
    }

    private static List<Class<?>> classes() {
        List<Class<?>> found = new ArrayList<>(List.of(Homekeys.class));
        found.addAll(List.of(Homekeys.class.getDeclaredClasses()));
        return found;
    }

    private static String signature(Class<?>[] types) {
        List<String> names = new ArrayList<>();
        for (Class<?> type : types) {
            names.add(type.getSimpleName());
        }
        return "(" + String.join(",", names) + ")";
    }

    private static String thrower(String member, String... exceptions) {
        return exceptions.length == 0 ? member : member + " throws " + String.join(", ", exceptions);
    }

    /** A member with the exceptions that it declares, in the order in which it does. */
    private static String withThrows(String member, Class<?>[] exceptions) {
        String[] names = new String[exceptions.length];
        for (int i = 0; i < names.length; i++) {
            names[i] = exceptions[i].getName().replaceFirst("^java\\.lang\\.", "");
        }
        return thrower(member, names);
    }

    private static void faceIsTheDocuments() {
        Set<String> seen = new TreeSet<>();
        Set<String> open = new TreeSet<>();
        for (Method method : Homekeys.class.getDeclaredMethods()) {
            if (!Modifier.isPrivate(method.getModifiers())) {
                String head = method.getReturnType() + " " + method.getName() + signature(method.getParameterTypes());
                seen.add(withThrows(head, method.getExceptionTypes()));
                open.add(method.getName());
                if (!Modifier.isPublic(method.getModifiers()) || Modifier.isStatic(method.getModifiers())) {
                    report("not a public method of objects: " + method);
                }
            }
        }
        for (Field field : Homekeys.class.getDeclaredFields()) {
            if (!Modifier.isPrivate(field.getModifiers())) {
                seen.add(field.getName());
                if (!field.toString().startsWith("public static final int ")) {
                    report("not a constant: " + field);
                }
            }
        }
        for (Constructor<?> constructor : Homekeys.class.getDeclaredConstructors()) {
            if (!Modifier.isPrivate(constructor.getModifiers())) {
                String head = "Homekeys" + signature(constructor.getParameterTypes());
                seen.add(withThrows(head, constructor.getExceptionTypes()));
            }
        }
        Set<String> due = new TreeSet<>(List.of(FACE));
        for (String member : due) {
            if (!seen.contains(member)) {
                report("wanting or changed: " + member);
            }
        }
        for (String member : seen) {
            if (!due.contains(member)) {
                report("not of the document's face: " + member);
            }
        }
        if (Homekeys.class.getModifiers() != (Modifier.PUBLIC | Modifier.FINAL)) {
            report("the class is not public and final alone");
        }
        privateNamesAreOthers(open);
    }

    private static void privateNamesAreOthers(Set<String> open) {
        for (Class<?> type : classes()) {
            for (Method method : type.getDeclaredMethods()) {
                if (Modifier.isPrivate(method.getModifiers()) && open.contains(method.getName())) {
                    report("a private method has a public one's name: " + method);
                }
            }
        }
    }

    private static void classKeepsTheRules(Class<?> type) {
        int fields = 0;
        for (Field field : type.getDeclaredFields()) {
            boolean constant = Modifier.isStatic(field.getModifiers());
            fields += constant ? 0 : 1;
            if (constant && !Modifier.isFinal(field.getModifiers())) {
                report("static state: " + field);
            }
        }
        if (fields > MOST_FIELDS) {
            report(type + " has " + fields + " fields");
        }
        if (type != Homekeys.class && !Modifier.isStatic(type.getModifiers())) {
            report(type + " is not static");
        }
        for (Method method : type.getDeclaredMethods()) {
            if (method.getParameterCount() > MOST_PARAMETERS) {
                report("too many parameters: " + method);
            }
        }
    }

    private static void sourceKeepsTheRules(String source) {
        for (int i = 0; i < source.length(); i++) {
            if (source.charAt(i) > 126) {
                report("a sign above 126 at place " + i);
                break;
            }
        }
        String code = source.replaceAll("(?s)/\\*.*?\\*/", "").replaceAll("//[^\n]*", "").replaceAll("\"[^\"\n]*\"", "\"\"");
        for (String pattern : LEFT_OUT) {
            Matcher matcher = Pattern.compile(pattern).matcher(code);
            if (matcher.find()) {
                report("the source has what the rules leave out: " + pattern);
            }
        }
        Matcher imports = Pattern.compile("\\bimport\\s+([^;]+);").matcher(code);
        while (imports.find()) {
            if (!Set.of("java.util.Arrays", "java.util.ArrayList", "java.util.List").contains(imports.group(1))) {
                report("an import: " + imports.group(1));
            }
        }
        if (code.split("\\bclass\\b").length - 1 > MOST_CLASSES) {
            report("too many classes");
        }
        methodsAreShort(code);
    }

    /** By the indents: a line that opens a block inside a class, up to the line that closes it. */
    private static void methodsAreShort(String code) {
        // A throws clause may stand on a line of its own.
        String[] lines = code.replaceAll("\\)\\s+throws ", ") throws ").split("\n");
        for (int i = 0; i < lines.length; i++) {
            Matcher opens = Pattern.compile("^( {4}| {8})\\S.*\\)( throws [\\w, ]+)? \\{$").matcher(lines[i]);
            if (opens.matches()) {
                int end = i;
                while (end < lines.length && !lines[end].equals(opens.group(1) + "}")) {
                    end++;
                }
                if (end - i + 1 > LONGEST_METHOD) {
                    report("a long method: " + lines[i].trim());
                }
            }
        }
    }
}
