import java.lang.annotation.Retention;
import java.lang.annotation.RetentionPolicy;
import java.lang.reflect.InvocationTargetException;
import java.lang.reflect.Method;
import java.nio.file.Files;
import java.nio.file.Path;
import java.util.ArrayList;
import java.util.Arrays;
import java.util.Comparator;
import java.util.List;

/**
 * What the tests of boundary cases have in common: a class stands for a section of the document, a method for a
 * sentence of it, which it quotes; the quotes are looked up in the document, so that none gets old.
 */
abstract class Boundaries {
    private static final String DOCUMENT = "../shared/DOC.md";

    /** The heading of the section that a class stands for. */
    @Retention(RetentionPolicy.RUNTIME)
    @interface In {
        String value();
    }

    /** The sentence that a method tests; quotation marks and backquotes do not matter. */
    @Retention(RetentionPolicy.RUNTIME)
    @interface Says {
        String value();
    }

    interface Call {
        void on(JointLoans x);
    }

    interface Recipe {
        JointLoans make();
    }

    static final Class<IndexOutOfBoundsException> INDEX = IndexOutOfBoundsException.class;
    static final Class<IllegalArgumentException> ARGUMENT = IllegalArgumentException.class;
    static final Class<IllegalStateException> STATE = IllegalStateException.class;

    static final int NONE = -1;
    static final int MIN = Integer.MIN_VALUE;
    static final int MAX = Integer.MAX_VALUE;
    static final int[] NO_MEMBERS = {MIN, -1, 3, 7, 8, MAX};

    static final int LIMIT = 0;
    static final int SUM = 1;
    static final int LEFT = 2;
    static final int WEEKS = 3;
    static final int DUE = 4;
    static final int ABSENT = 5;
    static final int MISSED_IN_CYCLE = 6;
    static final int MISSED = 7;
    static final int OWES_BANK = 8;
    static final int OWES_FUND = 9;
    static final int OWES_MEMBERS = 10;
    static final int IS_OWED = 11;
    static final int SAVED = 12;
    static final int PAID_FOR_OTHERS = 13;

    static final int WEEK = 0;
    static final int CYCLE = 1;
    static final int CHAIR = 2;
    static final int MEMBERS = 3;
    static final int FUND = 4;
    static final int PAID = 11;
    static final int BALANCE = 12;
    static final int ABSENT_ONES = 14;
    static final int STATES = 15;

    static final int INTEREST = 0;
    static final int SAVING = 1;
    static final int CHAIR_WEEKS = 2;
    static final int GRANT = 3;

    /** 55 characters: five more fill the buffer. */
    static final String ELEVEN_WEEKS = "week;week;week;week;week;week;week;week;week;week;week;";

    private static String test = "";
    private static int checks = 0;
    private static int wrong = 0;

    // ---- what all tests use

    static void complain(String what) {
        wrong++;
        System.out.println(test + ": " + what);
    }

    static void due(String call, long got, long want) {
        checks++;
        if (got != want) {
            complain(call + " answered " + got + ", due is " + want);
        }
    }

    static void due(String call, List<Long> got, List<Long> want) {
        checks++;
        if (!got.equals(want)) {
            complain(call + " answered " + got + ", due is " + want);
        }
    }

    static void dueMember(JointLoans x, int member, int what, int want) {
        due("member(" + member + ", " + what + ")", x.member(member, what), want);
    }

    static void dueCount(JointLoans x, int what, int want) {
        due("count(" + what + ")", x.count(what), want);
    }

    static void dueShare(JointLoans x, double want) {
        due("paidShare() bits", Double.doubleToLongBits(x.paidShare()), Double.doubleToLongBits(want));
    }

    /** The call must throw just this exception, and change nothing that any later call could show. */
    static void refused(Recipe recipe, Class<? extends RuntimeException> want, String name, Call call) {
        Call refusedCall = x -> {
            try {
                call.on(x);
                complain(name + " threw nothing, due is " + want.getName());
            } catch (RuntimeException e) {
                if (e.getClass() != want) {
                    complain(name + " threw " + e + ", due is " + want.getName());
                }
            }
        };
        unchanged(recipe, name, refusedCall);
    }

    /** The call must change nothing that any later call could show. */
    static void unchanged(Recipe recipe, String name, Call call) {
        due(name + ", all behind it", everything(recipe, call), everything(recipe, x -> { }));
    }

    private static List<Long> everything(Recipe recipe, Call call) {
        JointLoans x = recipe.make();
        call.on(x);
        List<Long> all = looks(x);
        for (int i = 0; i < 7 && x.count(STATES) > 0; i++) {
            x.undo();
            all.add(x.digest());
        }
        JointLoans y = recipe.make();
        call.on(y);
        all.add((long) joinAll(y));
        return all;
    }

    static int joinAll(JointLoans x) {
        int joined = 0;
        try {
            for (; joined < 9; joined++) {
                x.join();
            }
        } catch (IllegalStateException e) {
            return joined;
        }
        return joined;
    }

    static boolean isMember(JointLoans x, int number) {
        try {
            x.member(number, 0);
            return true;
        } catch (IndexOutOfBoundsException e) {
            return false;
        }
    }

    private static List<Long> looks(JointLoans x) {
        List<Long> all = looksAtState(x);
        all.add((long) x.count(STATES));
        all.add((long) x.firstError());
        all.add(x.digest());
        return all;
    }

    /** All that is restored by undo, but the numbers that were given. */
    static List<Long> looksAtState(JointLoans x) {
        List<Long> all = new ArrayList<>();
        for (int what = 0; what < STATES; what++) {
            all.add((long) x.count(what));
        }
        for (int setting = 0; setting < 4; setting++) {
            all.add((long) x.setting(setting));
        }
        List<Integer> members = new ArrayList<>();
        for (int number = 0; number < 8; number++) {
            if (isMember(x, number)) {
                members.add(number);
            }
        }
        for (int number : members) {
            all.add((long) number);
            for (int what = 0; what < 14; what++) {
                all.add((long) x.member(number, what));
            }
            for (int other : members) {
                all.add((long) x.owes(number, other));
            }
            all.add((long) x.fundLasts(number));
            all.add((long) x.ifCycle(number));
        }
        for (int mask : new int[] {0, 1, 255}) {
            for (int what = 0; what < 5; what++) {
                all.add((long) x.ifAbsent(mask, what));
            }
        }
        all.add((long) x.weakest());
        all.add((long) x.weeksToGo());
        all.add(Double.doubleToLongBits(x.paidShare()));
        return all;
    }

    static JointLoans group(int members) {
        JointLoans x = new JointLoans();
        for (int i = 0; i < members; i++) {
            x.join();
        }
        return x;
    }

    static JointLoans after(JointLoans x, Call call) {
        call.on(x);
        return x;
    }

    static JointLoans typed(JointLoans x, String text) {
        for (int i = 0; i < text.length(); i++) {
            x.append(text.charAt(i));
        }
        return x;
    }

    static void weeks(JointLoans x, int number) {
        for (int i = 0; i < number; i++) {
            x.week();
        }
    }

    /** Ends a week in which these are absent; tells what the bank was paid. */
    static int weekWithout(JointLoans x, int... members) {
        for (int member : members) {
            x.absent(member);
        }
        return x.week();
    }

    /** So many members, nothing saved from now on, and this in the fund (a multiple of the members). */
    static JointLoans groupWithFund(int members, int fund) {
        JointLoans x = group(members);
        x.set(SAVING, fund / members);
        x.week();
        x.set(SAVING, 0);
        due("the fund of the recipe", x.count(FUND), fund);
        return x;
    }

    /** Member 0 of three owes 51 to the bank, 15 to the fund, 18 to member 1 and 18 to member 2; the fund has 10. */
    static JointLoans withAllDebts() {
        JointLoans x = group(3);
        x.lend(0, 200, 4);
        weekWithout(x, 0, 1, 2);
        x.week();
        weekWithout(x, 0);
        return x;
    }

    /** Member 0 of three owes 1 to the bank alone, to the fund alone or to member 2 alone; there is no loan. */
    static JointLoans withDebtOfOne(int property) {
        JointLoans x = group(3);
        if (property == OWES_FUND) {
            x.week();
        }
        x.set(SAVING, 0);
        x.lend(0, 10, 1);
        weekWithout(x, property == OWES_BANK ? new int[] {0, 1, 2} : new int[] {0});
        x.payBack(0, 9);
        due("the debt of the recipe", x.member(0, property), 1);
        due("all debts of the recipe", x.member(0, OWES_BANK) + x.member(0, OWES_FUND) + x.member(0, OWES_MEMBERS), 1);
        return x;
    }

    /** One member whose limit went so: u is a cycle without missed dues, d one with three. */
    static JointLoans withLimit(String path) {
        JointLoans x = group(1);
        for (int i = 0; i < path.length(); i++) {
            if (path.charAt(i) == 'd') {
                missDues(x, 3);
            }
            x.cycle();
        }
        return x;
    }

    /** Member 0, the only one, misses so many dues, and pays all of them back. */
    static void missDues(JointLoans x, int number) {
        x.lend(0, 10, number);
        for (int i = 0; i < number; i++) {
            weekWithout(x, 0);
        }
        x.payBack(0, 2000);
    }

    static JointLoans leaveAll(JointLoans x) {
        int members = x.count(MEMBERS);
        for (int i = 0; i < members; i++) {
            x.leave(i);
        }
        return x;
    }

    /** Three members, each with a debt of 10 to the bank, an empty fund, and no chair. */
    static JointLoans withoutChair() {
        JointLoans x = groupWithFund(3, 0);
        x.set(CHAIR_WEEKS, 1);
        for (int i = 0; i < 3; i++) {
            x.lend(i, 10, 1);
        }
        weekWithout(x, 0, 1, 2);
        due("the chair of the recipe", x.count(CHAIR), NONE);
        return x;
    }

    /** Drops two of the saved states, of which there are six: there is room for new ones then. */
    static JointLoans withFourStates(JointLoans x) {
        x.set(INTEREST, 5);
        x.set(INTEREST, 5);
        x.undo();
        x.undo();
        due("the saved states of the recipe", x.count(STATES), 4);
        return x;
    }

    /** Three members, 0 with debts of all kinds, 1 with a loan, 2 absent and 0 the chair; a buffer, four states. */
    static JointLoans full() {
        JointLoans x = withAllDebts();
        x.lend(1, 100, 3);
        x.set(GRANT, 99);
        x.absent(2);
        return withFourStates(typed(x, "week;x"));
    }

    static JointLoans fullWith(String text) {
        return typed(after(full(), JointLoans::clearBuffer), text);
    }

    // ---- the tests of all sections

    private static String plain(String text) {
        return text.replaceAll("[`\"]", "").replaceAll("\\s+", " ");
    }

    /** What stands under the heading, to the next one that is no lower. */
    private static String section(String document, String heading) {
        int begin = document.indexOf("\n" + heading);
        if (begin < 0) {
            complain("the document has no heading " + heading);
            return "";
        }
        int end = document.indexOf("\n## ", begin + 1);
        int lowerEnd = document.indexOf("\n### ", begin + 1);
        if (heading.startsWith("### ") && lowerEnd >= 0 && lowerEnd < end) {
            end = lowerEnd;
        }
        return plain(document.substring(begin, end < 0 ? document.length() : end));
    }

    private static void runTest(Class<?> section, Method method, String text) throws IllegalAccessException {
        test = section.getSimpleName() + "." + method.getName();
        String sentence = plain(method.getAnnotation(Says.class).value());
        if (!text.contains(sentence)) {
            complain("the document does not say there: " + sentence);
        }
        int before = checks;
        method.setAccessible(true);
        try {
            method.invoke(null);
        } catch (InvocationTargetException e) {
            complain("threw " + e.getCause() + " at " + e.getCause().getStackTrace()[0]);
        }
        if (checks == before) {
            complain("has checked nothing");
        }
    }

    private static int runSection(Class<?> section, String document) throws IllegalAccessException {
        String text = section(document, section.getAnnotation(In.class).value());
        int tests = 0;
        Method[] methods = section.getDeclaredMethods();
        Arrays.sort(methods, Comparator.comparing(Method::getName));
        for (Method method : methods) {
            if (method.isAnnotationPresent(Says.class)) {
                runTest(section, method, text);
                tests++;
            }
        }
        return tests;
    }

    /** Runs the tests of all sections in the class; exits with 1 if an answer is wrong. */
    static void runAll(Class<?> tests) throws Exception {
        String document = Files.readString(Path.of(DOCUMENT));
        int number = 0;
        for (Class<?> section : tests.getDeclaredClasses()) {
            if (section.isAnnotationPresent(In.class)) {
                number += runSection(section, document);
            }
        }
        System.out.println(wrong == 0 ? number + " sentences hold" : wrong + " answers are not as due");
        if (wrong != 0) {
            System.exit(1);
        }
    }
}
