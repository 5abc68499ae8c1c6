import java.util.ArrayDeque;
import java.util.ArrayList;
import java.util.Deque;
import java.util.List;
import java.util.Map;
import java.util.TreeMap;
import java.util.regex.Pattern;

/**
 * Long mixed runs of calls, each answer compared with that of a second program, which is written down from the
 * document with maps and by trying out, and shares nothing with JointLoans.
 */
public final class ModelTest {
    private static final String ORDER = "(loan[0-7]\\*([1-9][0-9]{1,2}|1[0-9]{3}|2000)/([1-9]|[1-4][0-9]|5[0-2])"
        + "|away[0-7]|(pay|help)[0-7]\\*([1-9][0-9]{0,2}|1[0-9]{3}|2000)|week|cycle)";
    private static final Pattern ORDERS = Pattern.compile(ORDER + "(;" + ORDER + ")*");
    private static final String[] SHORT_ORDERS = {"loan0*10/1", "away0", "pay0*1", "help0*1", "week", "cycle"};

    private static final int CALLS = 512;
    private static final int RUNS = 1500;

    private static int wrong = 0;

    private static final class Loan {
        int sum;
        int weeks;
        int interest;
        int left;
        int weeksLeft;

        int part() {
            return weeksLeft == 1 ? left : sum / weeks;
        }

        int due() {
            return part() + interest;
        }

        Loan copy() {
            Loan c = new Loan();
            c.sum = sum;
            c.weeks = weeks;
            c.interest = interest;
            c.left = left;
            c.weeksLeft = weeksLeft;
            return c;
        }
    }

    private static final class Person {
        int limit = 200;
        Loan loan;
        boolean absent;
        int missedCycle;
        int missed;
        int toBank;
        int toFund;
        int saved;
        int helped;
        Map<Integer, Integer> toOthers = new TreeMap<>();

        int sumToOthers() {
            return toOthers.values().stream().mapToInt(Integer::intValue).sum();
        }

        boolean inDebt() {
            return toBank + toFund + sumToOthers() != 0;
        }

        int owesTo(int other) {
            return toOthers.getOrDefault(other, 0);
        }

        int newLimit() {
            if (missedCycle == 0) {
                return Math.min(2000, limit * 3 / 2);
            }
            return missedCycle < 3 ? limit : Math.max(20, limit / 2);
        }

        Person copy() {
            Person c = new Person();
            c.limit = limit;
            c.loan = loan == null ? null : loan.copy();
            c.absent = absent;
            c.missedCycle = missedCycle;
            c.missed = missed;
            c.toBank = toBank;
            c.toFund = toFund;
            c.saved = saved;
            c.helped = helped;
            c.toOthers.putAll(toOthers);
            return c;
        }
    }

    private static final class World {
        TreeMap<Integer, Person> people = new TreeMap<>();
        int[] settings = {5, 5, 4, 50};
        int given;
        int week;
        int cycle;
        int chair = -1;
        int fund;
        int lent;
        int interest;
        int paid;
        int missed;

        World copy() {
            World c = new World();
            people.forEach((k, p) -> c.people.put(k, p.copy()));
            c.settings = settings.clone();
            c.given = given;
            c.week = week;
            c.cycle = cycle;
            c.chair = chair;
            c.fund = fund;
            c.lent = lent;
            c.interest = interest;
            c.paid = paid;
            c.missed = missed;
            return c;
        }

        Person get(int number) {
            Person p = people.get(number);
            if (p == null) {
                throw new IndexOutOfBoundsException();
            }
            return p;
        }

        int owedTo(int number) {
            return people.values().stream().mapToInt(p -> p.owesTo(number)).sum();
        }

        int total(java.util.function.ToIntFunction<Person> part) {
            return people.values().stream().mapToInt(part).sum();
        }

        static void must(boolean holds) {
            if (!holds) {
                throw new IllegalStateException();
            }
        }

        static void inRange(int value, int least, int most) {
            if (value < least || value > most) {
                throw new IllegalArgumentException();
            }
        }

        int join() {
            must(given < 8);
            if (people.isEmpty()) {
                chair = given;
            }
            people.put(given, new Person());
            return given++;
        }

        int leave(int number) {
            Person p = get(number);
            must(p.loan == null && !p.inDebt() && owedTo(number) == 0 && fund >= p.saved);
            people.remove(number);
            fund -= p.saved;
            if (chair == number) {
                passChair();
            }
            return p.saved;
        }

        void passChair() {
            List<Integer> asked = new ArrayList<>();
            asked.addAll(people.tailMap(chair, false).keySet());
            asked.addAll(people.headMap(chair, true).keySet());
            for (int number : asked) {
                if (!people.get(number).inDebt()) {
                    chair = number;
                    return;
                }
            }
            chair = -1;
        }

        int lend(int number, int sum, int weeks) {
            Person p = get(number);
            inRange(sum, 10, 2000);
            inRange(weeks, 1, 52);
            must(p.loan == null && !p.inDebt() && sum <= p.limit);
            p.loan = new Loan();
            p.loan.sum = sum;
            p.loan.weeks = weeks;
            p.loan.interest = sum * settings[0] / 1000;
            p.loan.left = sum;
            p.loan.weeksLeft = weeks;
            lent += sum;
            return p.loan.due();
        }

        int absent(int number) {
            get(number).absent ^= true;
            return total(p -> p.absent ? 1 : 0);
        }

        int week() {
            must(week + 1 <= 999);
            return endOfWeek();
        }

        int endOfWeek() {
            int before = paid;
            for (Person p : people.values()) {
                if (p.loan != null) {
                    dueOf(p);
                }
            }
            for (Person p : people.values()) {
                if (!p.absent) {
                    p.saved += settings[1];
                    fund += settings[1];
                }
            }
            if ((week + 1) % settings[2] == 0) {
                passChair();
            }
            week++;
            people.values().forEach(p -> p.absent = false);
            return paid - before;
        }

        void dueOf(Person p) {
            int open = p.loan.due();
            interest += p.loan.interest;
            if (!p.absent) {
                paid += open;
                open = 0;
            } else {
                p.missed++;
                p.missedCycle++;
                missed++;
                while (open > 0 && fund > 0) {
                    fund--;
                    p.toFund++;
                    paid++;
                    open--;
                }
                List<Integer> helpers = new ArrayList<>();
                people.forEach((k, q) -> {
                    if (!q.absent) {
                        helpers.add(k);
                    }
                });
                // one by one in turn: the first ones pay one more
                for (int i = 0; open > 0 && !helpers.isEmpty(); i++, open--) {
                    int helper = helpers.get(i % helpers.size());
                    p.toOthers.merge(helper, 1, Integer::sum);
                    people.get(helper).helped++;
                    paid++;
                }
                p.toBank += open;
            }
            p.loan.left -= p.loan.part();
            p.loan.weeksLeft--;
            if (p.loan.weeksLeft == 0) {
                p.loan = null;
            }
        }

        int payBack(int number, int money) {
            Person p = get(number);
            inRange(money, 1, 2000);
            must(p.inDebt());
            int used = 0;
            while (used < money && p.toBank > 0) {
                p.toBank--;
                paid++;
                used++;
            }
            while (used < money && p.toFund > 0) {
                p.toFund--;
                fund++;
                used++;
            }
            for (int other : new ArrayList<>(p.toOthers.keySet())) {
                while (used < money && p.owesTo(other) > 0) {
                    p.toOthers.merge(other, -1, Integer::sum);
                    used++;
                }
            }
            return used;
        }

        int help(int number, int money) {
            Person p = get(number);
            inRange(money, 1, 2000);
            must(chair >= 0 && chair != number && p.toFund == 0 && money * 100 <= fund * settings[3]);
            fund -= money;
            p.toFund += money;
            return fund;
        }

        int cycle() {
            must(people.values().stream().allMatch(p -> p.loan == null && p.toBank == 0));
            for (Person p : people.values()) {
                p.limit = p.newLimit();
                p.missedCycle = 0;
            }
            return ++cycle;
        }

        int set(int setting, int value) {
            if (setting < 0 || setting > 3) {
                throw new IndexOutOfBoundsException();
            }
            inRange(value, setting == 2 ? 1 : 0, new int[] {50, 99, 20, 100}[setting]);
            int previous = settings[setting];
            settings[setting] = value;
            return previous;
        }

        int property(int number, int what) {
            Person p = get(number);
            Loan l = p.loan;
            inRange(what, 0, 13);
            int[] all = {p.limit, l == null ? 0 : l.sum, l == null ? 0 : l.left, l == null ? 0 : l.weeksLeft,
                l == null ? 0 : l.due(), p.absent ? 1 : 0, p.missedCycle, p.missed, p.toBank, p.toFund,
                p.sumToOthers(), owedTo(number), p.saved, p.helped};
            return all[what];
        }

        int owes(int number, int other) {
            get(number);
            get(other);
            return people.get(number).owesTo(other);
        }

        int count(int what, int states) {
            inRange(what, 0, 15);
            int left = total(p -> p.loan == null ? 0 : p.loan.left);
            int bank = total(p -> p.toBank);
            int[] all = {week, cycle, chair, people.size(), fund, left, bank, total(p -> p.toFund),
                total(Person::sumToOthers), lent, interest, paid, left + bank, missed,
                total(p -> p.absent ? 1 : 0), states};
            if (all[12] != lent + interest - paid) {
                throw new AssertionError("the books do not agree");
            }
            return all[what];
        }

        World afterWeekWithout(int mask) {
            World w = copy();
            w.people.forEach((k, p) -> p.absent = (mask & 1 << k) != 0);
            w.endOfWeek();
            return w;
        }

        int ifAbsent(int mask, int what) {
            inRange(mask, 0, 255);
            inRange(what, 0, 4);
            World w = afterWeekWithout(mask);
            int most = 0;
            for (int k : people.keySet()) {
                most = Math.max(most, w.people.get(k).helped - people.get(k).helped);
            }
            int[] all = {w.paid - paid, w.fund, w.total(p -> p.toBank), w.total(Person::sumToOthers), most};
            return all[what];
        }

        int fundLasts(int number) {
            get(number);
            World w = this;
            for (int ahead = 0; ahead <= 100; ahead++) {
                World next = w.afterWeekWithout(1 << number);
                if (next.total(p -> p.helped) > w.total(p -> p.helped)
                    || next.total(p -> p.toBank) > w.total(p -> p.toBank)) {
                    return ahead;
                }
                w = next;
            }
            return -1;
        }

        int weakest() {
            int found = -1;
            int most = 0;
            for (int k : people.keySet()) {
                int more = afterWeekWithout(1 << k).total(p -> p.helped) - total(p -> p.helped);
                if (more > most) {
                    most = more;
                    found = k;
                }
            }
            return found;
        }

        int weeksToGo() {
            return people.values().stream().mapToInt(p -> p.loan == null ? 0 : p.loan.weeksLeft).max().orElse(0);
        }

        double paidShare() {
            return lent + interest == 0 ? 1.0 : (double) paid / (lent + interest);
        }
    }

    private static final class Model {
        World now = new World();
        Deque<World> states = new ArrayDeque<>();
        String buffer = "";

        interface Change {
            int on(World w);
        }

        int undoable(Change change) {
            World before = now.copy();
            int answer = change.on(now);
            states.addLast(before);
            if (states.size() > 6) {
                states.removeFirst();
            }
            return answer;
        }

        int append(int code) {
            World.inRange(code, 33, 126);
            World.must(buffer.length() < 60);
            buffer += (char) code;
            return buffer.length();
        }

        int clearBuffer() {
            int length = buffer.length();
            buffer = "";
            return length;
        }

        int firstError() {
            for (int i = 0; i < buffer.length(); i++) {
                if (!begins(buffer.substring(0, i + 1))) {
                    return i;
                }
            }
            return buffer.length();
        }

        /** Tells whether orders begin with the text: then some end of a short order makes it whole. */
        static boolean begins(String text) {
            if (ORDERS.matcher(text).matches()) {
                return true;
            }
            for (String order : SHORT_ORDERS) {
                for (int from = 0; from < order.length(); from++) {
                    if (ORDERS.matcher(text + order.substring(from)).matches()) {
                        return true;
                    }
                }
            }
            return false;
        }

        int run() {
            if (!ORDERS.matcher(buffer).matches()) {
                throw new IllegalArgumentException();
            }
            String[] orders = buffer.split(";");
            buffer = "";
            return undoable(w -> {
                int done = 0;
                try {
                    for (; done < orders.length; done++) {
                        carryOut(w, orders[done]);
                    }
                } catch (IllegalStateException | IndexOutOfBoundsException e) {
                    return done;
                }
                return done;
            });
        }

        static void carryOut(World w, String order) {
            if (order.equals("week")) {
                w.week();
            } else if (order.equals("cycle")) {
                w.cycle();
            } else {
                String word = order.replaceAll("[0-9*/]", "");
                String[] numbers = order.substring(word.length()).split("[*/]");
                int number = Integer.parseInt(numbers[0]);
                if (word.equals("away")) {
                    w.get(number).absent = true;
                } else if (word.equals("pay")) {
                    w.payBack(number, Integer.parseInt(numbers[1]));
                } else if (word.equals("help")) {
                    w.help(number, Integer.parseInt(numbers[1]));
                } else {
                    w.lend(number, Integer.parseInt(numbers[1]), Integer.parseInt(numbers[2]));
                }
            }
        }

        int undo() {
            World.must(!states.isEmpty());
            now = states.removeLast();
            return states.size();
        }

        long digest() {
            List<Long> values = new ArrayList<>();
            for (int what = 0; what < 16; what++) {
                values.add((long) now.count(what, states.size()));
            }
            for (int setting : now.settings) {
                values.add((long) setting);
            }
            for (int number : now.people.keySet()) {
                values.add((long) number);
                for (int what = 0; what < 14; what++) {
                    values.add((long) now.property(number, what));
                }
                for (int other : now.people.keySet()) {
                    values.add((long) now.owes(number, other));
                }
                values.add((long) now.fundLasts(number));
                values.add((long) now.get(number).newLimit());
            }
            for (int mask : new int[] {0, 1, 255}) {
                for (int what = 0; what < 5; what++) {
                    values.add((long) now.ifAbsent(mask, what));
                }
            }
            values.add((long) now.weakest());
            values.add((long) now.weeksToGo());
            values.add(Double.doubleToLongBits(now.paidShare()));
            values.add((long) buffer.length());
            buffer.chars().forEach(c -> values.add((long) c));
            long hash = 2713;
            for (long value : values) {
                hash = 31 * hash + value;
            }
            return hash;
        }
    }

    private interface Answer {
        long get();
    }

    private static String told(Answer answer) {
        try {
            return Long.toString(answer.get());
        } catch (IllegalStateException | IllegalArgumentException | IndexOutOfBoundsException e) {
            return e.getClass().getName();
        }
    }

    /** Numbers that look mixed, the same ones each time. */
    private static final class Dice {
        private long state;

        Dice(long seed) {
            state = seed * 0x9E3779B97F4A7C15L + 1;
        }

        int below(int bound) {
            state = state * 6364136223846793005L + 1442695040888963407L;
            return (int) ((state >>> 33) % bound);
        }

        int of(int... choices) {
            return choices[below(choices.length)];
        }
    }

    private static void compare(int run, String call, Answer got, Answer want) {
        String gotTold = told(got);
        String wantTold = told(want);
        if (!gotTold.equals(wantTold)) {
            wrong++;
            System.out.println("run " + run + ": " + call + " answered " + gotTold + ", due is " + wantTold);
        }
    }

    private static int someNumber(Dice dice) {
        return dice.below(20) == 0 ? dice.of(-1, 8, 7, 100, Integer.MIN_VALUE, Integer.MAX_VALUE) : dice.below(6);
    }

    private static int someSum(Dice dice) {
        return dice.of(dice.below(2100), 10 + dice.below(200), 10 + dice.below(200), 10 + dice.below(60), 10, 9, 200);
    }

    private static int someWeeks(Dice dice) {
        return dice.of(dice.below(54), 1 + dice.below(8), 1 + dice.below(4), 1);
    }

    private static int someMoney(Dice dice) {
        return dice.of(dice.below(2100), 1 + dice.below(30), 1 + dice.below(100), 1 + dice.below(8), 2000);
    }

    private static String someOrder(Dice dice) {
        int number = dice.below(5);
        switch (dice.below(8)) {
            case 0:
                return "loan" + number + "*" + someSum(dice) + "/" + someWeeks(dice);
            case 1:
                return "away" + number;
            case 2:
                return "pay" + number + "*" + someMoney(dice);
            case 3:
                return "help" + number + "*" + someMoney(dice);
            case 4:
                return "cycle";
            default:
                return "week";
        }
    }

    private static String someText(Dice dice) {
        StringBuilder text = new StringBuilder(someOrder(dice));
        while (dice.below(4) != 0) {
            text.append(';').append(someOrder(dice));
        }
        if (dice.below(4) == 0) {
            String signs = "0123456789;*/loanwykpehc~!";
            text.setCharAt(dice.below(text.length()), signs.charAt(dice.below(signs.length())));
        }
        if (dice.below(6) == 0) {
            text.setLength(1 + dice.below(text.length()));
        }
        return text.toString();
    }

    /** Types a text and asks for its error; tells how many calls this took. */
    private static int type(int run, JointLoans x, Model m, String text) {
        for (int i = 0; i < text.length(); i++) {
            int code = text.charAt(i);
            compare(run, "append(" + code + ")", () -> x.append(code), () -> m.append(code));
        }
        compare(run, "firstError() of " + m.buffer, x::firstError, m::firstError);
        return text.length() + 1;
    }

    private static void callMembers(int run, JointLoans x, Model m, Dice dice) {
        int number = someNumber(dice);
        int sum = someSum(dice);
        int weeks = someWeeks(dice);
        int money = someMoney(dice);
        int setting = dice.below(6) - 1;
        int value = dice.of(dice.below(102) - 1, 0, 1, 5, 50);
        switch (dice.below(24)) {
            case 0:
                compare(run, "join()", x::join, () -> m.undoable(World::join));
                break;
            case 1:
                compare(run, "leave(" + number + ")", () -> x.leave(number), () -> m.undoable(w -> w.leave(number)));
                break;
            case 2:
            case 3:
            case 4:
            case 5:
                compare(run, "lend(" + number + ", " + sum + ", " + weeks + ")", () -> x.lend(number, sum, weeks),
                    () -> m.undoable(w -> w.lend(number, sum, weeks)));
                break;
            case 6:
            case 7:
            case 8:
            case 9:
                compare(run, "absent(" + number + ")", () -> x.absent(number),
                    () -> m.undoable(w -> w.absent(number)));
                break;
            case 10:
            case 11:
            case 12:
                compare(run, "payBack(" + number + ", " + money + ")", () -> x.payBack(number, money),
                    () -> m.undoable(w -> w.payBack(number, money)));
                break;
            case 13:
                compare(run, "help(" + number + ", " + money + ")", () -> x.help(number, money),
                    () -> m.undoable(w -> w.help(number, money)));
                break;
            case 14:
                compare(run, "cycle()", x::cycle, () -> m.undoable(World::cycle));
                break;
            case 15:
                compare(run, "set(" + setting + ", " + value + ")", () -> x.set(setting, value),
                    () -> m.undoable(w -> w.set(setting, value)));
                break;
            case 16:
                compare(run, "undo()", x::undo, m::undo);
                break;
            default:
                compare(run, "week()", x::week, () -> m.undoable(World::week));
                break;
        }
    }

    private static void callLooks(int run, JointLoans x, Model m, Dice dice) {
        int number = someNumber(dice);
        int other = someNumber(dice);
        int what = dice.below(19) - 2;
        int mask = dice.of(dice.below(256), dice.below(256), dice.below(256), -1, 256);
        switch (dice.below(9)) {
            case 0:
                compare(run, "member(" + number + ", " + what + ")", () -> x.member(number, what),
                    () -> m.now.property(number, what));
                break;
            case 1:
                compare(run, "owes(" + number + ", " + other + ")", () -> x.owes(number, other),
                    () -> m.now.owes(number, other));
                break;
            case 2:
                compare(run, "count(" + what + ")", () -> x.count(what), () -> m.now.count(what, m.states.size()));
                break;
            case 3:
                compare(run, "setting(" + (what & 3) + ")", () -> x.setting(what & 3),
                    () -> m.now.settings[what & 3]);
                break;
            case 4:
                int kind = dice.below(7) - 1;
                compare(run, "ifAbsent(" + mask + ", " + kind + ")", () -> x.ifAbsent(mask, kind),
                    () -> m.now.ifAbsent(mask, kind));
                break;
            case 5:
                compare(run, "fundLasts(" + number + ")", () -> x.fundLasts(number), () -> m.now.fundLasts(number));
                break;
            case 6:
                compare(run, "weakest()", x::weakest, m.now::weakest);
                break;
            case 7:
                compare(run, "ifCycle(" + number + ")", () -> x.ifCycle(number),
                    () -> m.now.get(number).newLimit());
                break;
            default:
                compare(run, "weeksToGo()", x::weeksToGo, m.now::weeksToGo);
                compare(run, "paidShare()", () -> Double.doubleToLongBits(x.paidShare()),
                    () -> Double.doubleToLongBits(m.now.paidShare()));
                break;
        }
    }

    private static void mixedRun(int run) {
        Dice dice = new Dice(run);
        JointLoans x = new JointLoans();
        Model m = new Model();
        int first = dice.below(6);
        for (int i = 0; i < first; i++) {
            compare(run, "join()", x::join, () -> m.undoable(World::join));
        }
        for (int calls = first; calls < CALLS - 70 && wrong < 20; calls++) {
            int kind = dice.below(12);
            if (kind < 8) {
                callMembers(run, x, m, dice);
            } else if (kind < 11 || dice.below(4) != 0) {
                callLooks(run, x, m, dice);
            } else {
                calls += type(run, x, m, someText(dice)) + 1;
                if (dice.below(5) != 0) {
                    compare(run, "run()", x::run, m::run);
                }
                if (dice.below(3) != 0) {
                    compare(run, "clearBuffer()", x::clearBuffer, m::clearBuffer);
                }
            }
            if (dice.below(16) == 0) {
                compare(run, "digest()", x::digest, m::digest);
            }
        }
        compare(run, "digest() at last", x::digest, m::digest);
    }

    /** Each text of up to three signs behind each beginning of an order: all errors are where they are due. */
    private static void shortTexts() {
        String[] beginnings = {"", "l", "loan", "loan3*", "loan3*1", "loan3*9", "loan3*20", "loan3*200", "loan3*201",
            "loan3*2000", "loan3*10/", "loan3*10/5", "loan3*10/6", "a", "away", "away5", "p", "pay", "pay5*", "pay5*200",
            "pay5*999", "help", "help7*", "help7*2000", "week", "c", "cycle", "week;", "cycle;wee"};
        String signs = "0123456789;*/lawphckey";
        for (String beginning : beginnings) {
            for (int i = 0; i < signs.length() * signs.length() && wrong < 20; i++) {
                String text = beginning + signs.charAt(i / signs.length()) + signs.charAt(i % signs.length());
                JointLoans x = new JointLoans();
                Model m = new Model();
                type(0, x, m, text);
                compare(0, "run() of " + text, x::run, m::run);
                compare(0, "clearBuffer() of " + text, x::clearBuffer, m::clearBuffer);
            }
        }
    }

    public static void main(String[] args) {
        shortTexts();
        for (int run = 1; run <= RUNS && wrong < 20; run++) {
            mixedRun(run);
        }
        System.out.println(wrong == 0 ? "all answers are as due" : wrong + " answers are not as due");
        if (wrong != 0) {
            System.exit(1);
        }
    }
}
