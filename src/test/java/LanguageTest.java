import java.lang.reflect.Constructor;
import java.lang.reflect.Field;
import java.lang.reflect.Method;
import java.lang.reflect.Modifier;
import java.nio.file.Files;
import java.nio.file.Path;
import java.util.ArrayList;
import java.util.List;
import java.util.Set;
import java.util.TreeSet;
import java.util.regex.Matcher;
import java.util.regex.Pattern;

/** The face of the class, and those rules of ../shared/LANGUAGE.md that a look at the text can keep. */
public final class LanguageTest {
    private static final String SOURCE = "src/main/java/JointLoans.java";
    private static final String DOCUMENT = "../shared/DOC.md";

    private static final Set<String> FACE = Set.of("int join()", "int leave(int)", "int lend(int,int,int)",
        "int absent(int)", "int week()", "int payBack(int,int)", "int help(int,int)", "int cycle()",
        "int set(int,int)", "int append(int)", "int clearBuffer()", "int firstError()", "int run()", "int undo()",
        "int member(int,int)", "int owes(int,int)", "int count(int)", "int setting(int)", "int ifAbsent(int,int)",
        "int fundLasts(int)", "int weakest()", "int weeksToGo()", "int ifCycle(int)", "double paidShare()",
        "long digest()");

    private static final String[] FORBIDDEN = {"\\bimport\\b", "\\bpackage\\b", "->", "::", "\\bcatch\\b",
        "\\bfinally\\b", "\\bsynchronized\\b", "\\bassert\\b", "\\bMath\\.\\w*Exact\\b", "\\bDouble\\b", "\\bSystem\\.(?!arraycopy)",
        "\\bString\\.", "\\bequals\\(", "\\bhashCode\\b", "\\btoString\\b", "\\bThread\\b", "[^\\x00-\\x7f]"};

    private static int wrong = 0;

    private static void complain(String what) {
        wrong++;
        System.out.println(what);
    }

    private static String told(Method method) {
        StringBuilder told = new StringBuilder(method.getReturnType() + " " + method.getName() + "(");
        for (Class<?> type : method.getParameterTypes()) {
            told.append(told.charAt(told.length() - 1) == '(' ? "" : ",").append(type);
        }
        return told.append(')').toString();
    }

    private static void methods() {
        Set<String> names = new TreeSet<>();
        Set<String> found = new TreeSet<>();
        for (Method method : JointLoans.class.getDeclaredMethods()) {
            if (Modifier.isPublic(method.getModifiers()) && !Modifier.isStatic(method.getModifiers())) {
                found.add(told(method));
                names.add(method.getName());
            } else if (!Modifier.isPrivate(method.getModifiers()) && !method.isSynthetic()) {
                complain(told(method) + " is neither of the face nor private");
            }
        }
        if (!found.equals(FACE)) {
            complain("the face is " + found);
        }
        for (Method method : JointLoans.class.getDeclaredMethods()) {
            noFaceName(method, names);
        }
        for (Class<?> inner : JointLoans.class.getDeclaredClasses()) {
            if (!Modifier.isStatic(inner.getModifiers()) || Modifier.isPublic(inner.getModifiers())) {
                complain(inner + " is public or not static");
            }
            for (Method method : inner.getDeclaredMethods()) {
                noFaceName(method, names);
            }
        }
    }

    private static void noFaceName(Method method, Set<String> names) {
        if (Modifier.isPrivate(method.getModifiers()) && names.contains(method.getName())) {
            complain(method + " bears a name of the face");
        }
    }

    /** Rule 11: at most some twelve classes, twenty fields of an object, and seven parameters. */
    private static void sizes() {
        List<Class<?>> classes = new ArrayList<>(List.of(JointLoans.class.getDeclaredClasses()));
        classes.add(JointLoans.class);
        if (classes.size() > 12) {
            complain("there are " + classes.size() + " classes");
        }
        for (Class<?> each : classes) {
            int fields = 0;
            for (Field field : each.getDeclaredFields()) {
                fields += Modifier.isStatic(field.getModifiers()) ? 0 : 1;
            }
            if (fields > 20) {
                complain(each + " has " + fields + " fields");
            }
            for (Method method : each.getDeclaredMethods()) {
                if (method.getParameterCount() > 7) {
                    complain(told(method) + " takes too much");
                }
            }
        }
    }

    private static void fields() {
        for (Field field : JointLoans.class.getDeclaredFields()) {
            int m = field.getModifiers();
            boolean isNone = field.getName().equals("NONE") && Modifier.isPublic(m) && Modifier.isStatic(m)
                && field.getType() == int.class;
            if (!isNone && !Modifier.isPrivate(m)) {
                complain(field + " is not private");
            }
            if (Modifier.isStatic(m) && !Modifier.isFinal(m)) {
                complain(field + " is not final");
            }
        }
        Constructor<?>[] constructors = JointLoans.class.getDeclaredConstructors();
        if (constructors.length != 1 || constructors[0].getParameterCount() != 0
            || !Modifier.isPublic(constructors[0].getModifiers())) {
            complain("there is not one public constructor without parameters");
        }
        if (!Modifier.isFinal(JointLoans.class.getModifiers())) {
            complain("the class is not final");
        }
    }

    /** The lines between "```java" and "```", each without its ";". */
    private static List<String> faceOf(String document) {
        int begin = document.indexOf("```java");
        int end = begin < 0 ? -1 : document.indexOf("```", begin + 3);
        if (end < 0) {
            complain(DOCUMENT + " has no face");
            return List.of();
        }
        List<String> face = new ArrayList<>();
        for (String line : document.substring(begin + "```java".length(), end).strip().split("\\R")) {
            face.add(line.strip().replaceAll(";$", ""));
        }
        return face;
    }

    /** Each line of the face stands in the text as in the document, also its throws clause, and in the same order. */
    private static void faceAsInTheDocument(String document, String source) {
        String text = source.replaceAll("\\s+", " ");
        int place = 0;
        for (String line : faceOf(document)) {
            String ending = line.endsWith(")") || line.contains(") throws ") ? " {" : "";
            int found = text.indexOf(line + ending, place);
            if (found < 0) {
                complain("the face does not say, where it is due: " + line);
            } else {
                place = found + line.length();
            }
        }
    }

    /** What the interface says ahead of its calls stands ahead of the first of them. */
    private static void linesAheadOfCalls(String document, String source) {
        String text = source.replaceAll("\\s+", " ");
        Matcher said = Pattern.compile("Ahead of the calls `(\\w+)`.* the interface says: (---- .*)\\.").matcher(document);
        int found = 0;
        while (said.find()) {
            found++;
            if (!text.matches(".*// " + Pattern.quote(said.group(2)) + " public \\w+ " + said.group(1) + "\\(.*")) {
                complain("ahead of " + said.group(1) + " there is no " + said.group(2));
            }
        }
        if (found != 5) {
            complain(DOCUMENT + " has " + found + " lines ahead of calls");
        }
    }

    private static void text(List<String> lines) {
        int begin = 0;
        for (int i = 0; i < lines.size(); i++) {
            String code = lines.get(i).replaceAll("\"[^\"]*\"", "\"\"").replaceAll("//.*|^\\s*/?\\*.*", "");
            for (String pattern : FORBIDDEN) {
                if (Pattern.compile(pattern).matcher(code).find()) {
                    complain(SOURCE + ":" + (i + 1) + " has " + pattern);
                }
            }
            // all rows are made with the object, so that the calls of a run make none
            if (code.contains("new ") && !code.contains("throw new ") && !code.contains("private final ")
                && !code.matches("\\s*(members|states)\\[i\\] = new .*")) {
                complain(SOURCE + ":" + (i + 1) + " makes something in a call");
            }
            if (code.matches("    (    )?(private|public) .*\\(.*")) {
                begin = i;
            }
            if (code.matches("    (    )?\\}") && i - begin > 60) {
                complain(SOURCE + ":" + (begin + 1) + " is a long method");
            }
        }
    }

    public static void main(String[] args) throws Exception {
        methods();
        fields();
        sizes();
        String document = Files.readString(Path.of(DOCUMENT));
        String source = Files.readString(Path.of(SOURCE));
        faceAsInTheDocument(document, source);
        linesAheadOfCalls(document, source);
        text(Files.readAllLines(Path.of(SOURCE)));
        System.out.println(wrong == 0 ? "all is as due" : wrong + " faults");
        if (wrong != 0) {
            System.exit(1);
        }
    }
}
