/** For each promise of the document: ordinary inputs, the edges, and wrong inputs, with answers worked out by hand. */
public final class PromisesTest {
    private static int wrong = 0;
    private static String promise = "";

    private interface Call {
        void go();
    }

    private static final Class<IndexOutOfBoundsException> INDEX = IndexOutOfBoundsException.class;
    private static final Class<IllegalArgumentException> ARGUMENT = IllegalArgumentException.class;
    private static final Class<IllegalStateException> STATE = IllegalStateException.class;

    private static void complain(String what) {
        wrong++;
        System.out.println(promise + ": " + what);
    }

    private static void due(String call, long got, long want) {
        if (got != want) {
            complain(call + " answered " + got + ", due is " + want);
        }
    }

    /** The call must throw just this exception, and change nothing. */
    private static void refused(JointLoans x, Class<? extends RuntimeException> want, String name, Call call) {
        long before = x.digest();
        try {
            call.go();
            complain(name + " threw nothing, due is " + want.getName());
        } catch (RuntimeException e) {
            if (e.getClass() != want) {
                complain(name + " threw " + e + ", due is " + want.getName());
            }
        }
        due(name + ", digest after it", x.digest(), before);
    }

    private static JointLoans group(int members) {
        JointLoans x = new JointLoans();
        for (int i = 0; i < members; i++) {
            x.join();
        }
        return x;
    }

    private static void type(JointLoans x, String text) {
        for (int i = 0; i < text.length(); i++) {
            x.append(text.charAt(i));
        }
    }

    private static void weeks(JointLoans x, int number) {
        for (int i = 0; i < number; i++) {
            x.week();
        }
    }

    private static void away(JointLoans x, int... members) {
        for (int member : members) {
            x.absent(member);
        }
    }

    private static void dueMember(JointLoans x, int member, int... want) {
        for (int what = 0; what < want.length; what++) {
            due("member(" + member + ", " + what + ")", x.member(member, what), want[what]);
        }
    }

    private static void dueCounts(JointLoans x, int... want) {
        for (int what = 0; what < want.length; what++) {
            due("count(" + what + ")", x.count(what), want[what]);
        }
    }

    /** Member 0 of three owes 51 to the bank, 15 to the fund, 18 to member 1 and 18 to member 2; the fund has 10. */
    private static JointLoans withAllDebts() {
        JointLoans x = group(3);
        x.lend(0, 200, 4);
        away(x, 0, 1, 2);
        due("the week without helpers", x.week(), 0);
        due("the week that is paid", x.week(), 51);
        away(x, 0);
        due("the week that is covered", x.week(), 51);
        return x;
    }

    private static void newObject() {
        promise = "1";
        JointLoans x = new JointLoans();
        dueCounts(x, 0, 0, -1, 0, 0, 0, 0, 0, 0, 0, 0, 0, 0, 0, 0, 0);
        due("setting(0)", x.setting(0), 5);
        due("setting(1)", x.setting(1), 5);
        due("setting(2)", x.setting(2), 4);
        due("setting(3)", x.setting(3), 50);
        due("clearBuffer()", x.clearBuffer(), 0);
        due("NONE", JointLoans.NONE, -1);
        due("firstError()", x.firstError(), 0);
        due("weakest()", x.weakest(), -1);
        for (int i = 0; i < 8; i++) {
            final int number = i;
            refused(x, INDEX, "member(" + i + ", 0)", () -> x.member(number, 0));
        }
        refused(x, STATE, "undo()", x::undo);
        JointLoans y = group(2);
        due("another one's members", x.count(3), 0);
        due("its own members", y.count(3), 2);
    }

    private static void join() {
        promise = "2";
        JointLoans x = new JointLoans();
        for (int i = 0; i < 8; i++) {
            due("join()", x.join(), i);
            due("members", x.count(3), i + 1);
            due("the chair", x.count(2), 0);
            dueMember(x, i, 200, 0, 0, 0, 0, 0, 0, 0, 0, 0, 0, 0, 0, 0);
        }
        refused(x, STATE, "join() with 8 numbers given", x::join);
        x.leave(3);
        refused(x, STATE, "join() with 8 numbers given and 7 members", x::join);
        x.undo();
        x.undo();
        due("members after undo", x.count(3), 7);
        due("join() after undo", x.join(), 7);

        JointLoans y = group(2);
        y.leave(0);
        y.leave(1);
        due("the chair without members", y.count(2), -1);
        due("join() of an empty group", y.join(), 2);
        due("the chair of it", y.count(2), 2);
        due("join() behind it", y.join(), 3);
        due("the chair stays", y.count(2), 2);
        due("saved states", y.count(15), 6);

        JointLoans z = group(1);
        z.lend(0, 100, 1);
        z.set(2, 1);
        away(z, 0);
        z.week();
        due("no chair", z.count(2), -1);
        z.join();
        due("who joins a group with members is no chair", z.count(2), -1);
    }

    private static void leave() {
        promise = "3";
        JointLoans x = group(3);
        weeks(x, 2);
        due("fund", x.count(4), 30);
        due("leave(1)", x.leave(1), 10);
        due("fund after it", x.count(4), 20);
        due("members after it", x.count(3), 2);
        due("the chair stays", x.count(2), 0);
        refused(x, INDEX, "leave(1) again", () -> x.leave(1));
        refused(x, INDEX, "leave(-1)", () -> x.leave(-1));
        refused(x, INDEX, "leave(3)", () -> x.leave(3));
        refused(x, INDEX, "leave(8)", () -> x.leave(8));
        refused(x, INDEX, "leave(MAX)", () -> x.leave(Integer.MAX_VALUE));
        refused(x, INDEX, "leave(MIN)", () -> x.leave(Integer.MIN_VALUE));
        due("leave(0)", x.leave(0), 10);
        due("the chair goes on behind the one who left", x.count(2), 2);
        x.undo();
        x.undo();
        due("the chair after undo", x.count(2), 0);
        due("members after undo", x.count(3), 3);
        due("fund after undo", x.count(4), 30);
        due("saved of member 1", x.member(1, 12), 10);

        JointLoans y = group(2);
        y.lend(0, 100, 1);
        refused(y, STATE, "leave(0) with a loan", () -> y.leave(0));
        y.week();
        y.leave(0);
        due("the chair is 1", y.count(2), 1);
        due("fund", y.count(4), 5);

        leaveWithDebts();
        leaveOfChairs();
        leaveOfAbsentOnes();
    }

    private static void leaveWithDebts() {
        JointLoans x = withAllDebts();
        weeks(x, 1);
        due("loans are over", x.weeksToGo(), 0);
        refused(x, STATE, "leave(0) with debts", () -> x.leave(0));
        refused(x, STATE, "leave(1) whom 0 owes", () -> x.leave(1));
        x.payBack(0, 51);
        refused(x, STATE, "leave(0) with debts to the fund", () -> x.leave(0));
        x.payBack(0, 15);
        refused(x, STATE, "leave(0) with debts to members", () -> x.leave(0));
        x.payBack(0, 18);
        due("leave(1)", x.leave(1), 15);
        refused(x, STATE, "leave(2) whom 0 owes", () -> x.leave(2));
        x.payBack(0, 18);
        due("leave(2)", x.leave(2), 15);
        due("leave(0)", x.leave(0), 10);
        due("fund", x.count(4), 0);

        JointLoans y = group(1);
        y.lend(0, 20, 1);
        away(y, 0);
        y.week();
        refused(y, STATE, "leave(0) with debts to the bank alone", () -> y.leave(0));

        JointLoans z = group(3);
        weeks(z, 1);
        z.help(1, 7);
        refused(z, STATE, "leave(1) with debts to the fund alone", () -> z.leave(1));
        z.leave(2);
        refused(z, STATE, "leave(0) with 3 in the fund, 5 saved", () -> z.leave(0));
        z.payBack(1, 1);
        refused(z, STATE, "leave(0) with 4 in the fund, 5 saved", () -> z.leave(0));
        z.payBack(1, 1);
        due("leave(0) with 5 in the fund, 5 saved", z.leave(0), 5);
    }

    private static void leaveOfChairs() {
        JointLoans x = group(4);
        weeks(x, 1);
        x.help(1, 5);
        x.leave(0);
        due("the chair goes to one without debts", x.count(2), 2);
        x.leave(2);
        due("the chair goes to the next", x.count(2), 3);
        x.payBack(1, 5);
        x.leave(3);
        due("behind the greatest one the lowest", x.count(2), 1);
        x.leave(1);
        due("nobody is left", x.count(2), -1);

        JointLoans y = group(2);
        weeks(y, 4);
        due("the chair went on", y.count(2), 1);
        y.leave(1);
        due("behind the greatest one the lowest", y.count(2), 0);

        JointLoans z = group(2);
        weeks(z, 1);
        z.help(1, 5);
        z.leave(0);
        due("the only one who stays has debts", z.count(2), -1);
    }

    private static void leaveOfAbsentOnes() {
        JointLoans x = group(2);
        away(x, 1);
        x.leave(1);
        due("absent ones", x.count(14), 0);
        due("absent(0)", x.absent(0), 1);
        due("leave(0)", x.leave(0), 0);
        due("absent ones", x.count(14), 0);
    }

    private static void lend() {
        promise = "4";
        JointLoans x = group(3);
        due("lend(0, 200, 4)", x.lend(0, 200, 4), 51);
        dueMember(x, 0, 200, 200, 200, 4, 51);
        due("lend(1, 100, 3)", x.lend(1, 100, 3), 33);
        due("lend(2, 10, 52)", x.lend(2, 10, 52), 0);
        dueMember(x, 2, 200, 10, 10, 52, 0);
        due("lent", x.count(9), 310);
        due("interest", x.count(10), 0);
        due("balance", x.count(12), 310);
        refused(x, STATE, "lend(0, 10, 1) with a loan", () -> x.lend(0, 10, 1));

        JointLoans y = group(1);
        refused(y, INDEX, "lend(1, 100, 1)", () -> y.lend(1, 100, 1));
        refused(y, INDEX, "lend(-1, 9, 0)", () -> y.lend(-1, 9, 0));
        refused(y, ARGUMENT, "lend(0, 9, 1)", () -> y.lend(0, 9, 1));
        refused(y, ARGUMENT, "lend(0, 2001, 1)", () -> y.lend(0, 2001, 1));
        refused(y, ARGUMENT, "lend(0, 10, 0)", () -> y.lend(0, 10, 0));
        refused(y, ARGUMENT, "lend(0, 10, 53)", () -> y.lend(0, 10, 53));
        refused(y, ARGUMENT, "lend(0, MIN, 1)", () -> y.lend(0, Integer.MIN_VALUE, 1));
        refused(y, ARGUMENT, "lend(0, 10, MIN)", () -> y.lend(0, 10, Integer.MIN_VALUE));
        refused(y, STATE, "lend(0, 201, 1) above the limit", () -> y.lend(0, 201, 1));
        refused(y, STATE, "lend(0, 2000, 1) above the limit", () -> y.lend(0, 2000, 1));
        due("lend(0, 10, 1)", y.lend(0, 10, 1), 10);
        refused(y, ARGUMENT, "lend(0, 2001, 1) with a loan", () -> y.lend(0, 2001, 1));
        y.undo();
        due("no loan after undo", y.member(0, 3), 0);
        y.set(0, 50);
        due("lend(0, 199, 1) at 50 thousandths", y.lend(0, 199, 1), 208);
        lendWithDebts();
        lendOfSteadyInterest();
    }

    private static void lendWithDebts() {
        JointLoans x = withAllDebts();
        weeks(x, 1);
        refused(x, STATE, "lend(0, 10, 1) with debts", () -> x.lend(0, 10, 1));
        x.payBack(0, 51);
        refused(x, STATE, "lend(0, 10, 1) with debts to the fund", () -> x.lend(0, 10, 1));
        x.payBack(0, 15);
        refused(x, STATE, "lend(0, 10, 1) with debts to members", () -> x.lend(0, 10, 1));
        x.payBack(0, 35);
        refused(x, STATE, "lend(0, 10, 1) with a debt of 1", () -> x.lend(0, 10, 1));
        due("lend(1, 10, 1) to whom is owed", x.lend(1, 10, 1), 10);
        x.payBack(0, 1);
        due("lend(0, 10, 1)", x.lend(0, 10, 1), 10);
    }

    private static void lendOfSteadyInterest() {
        JointLoans x = group(1);
        x.lend(0, 200, 3);
        x.set(0, 50);
        due("the interest of a loan stays", x.member(0, 4), 67);
        due("week()", x.week(), 67);
        due("week()", x.week(), 67);
        due("all that is left for the last week", x.member(0, 4), 69);
        due("week()", x.week(), 69);
        dueMember(x, 0, 200, 0, 0, 0, 0);
        due("the new interest", x.lend(0, 200, 3), 76);
    }

    private static void absent() {
        promise = "5";
        JointLoans x = group(3);
        due("absent(1)", x.absent(1), 1);
        due("absent(2)", x.absent(2), 2);
        due("member(1, 5)", x.member(1, 5), 1);
        due("member(0, 5)", x.member(0, 5), 0);
        due("absent(1) again", x.absent(1), 1);
        due("member(1, 5)", x.member(1, 5), 0);
        due("count(14)", x.count(14), 1);
        due("saved states", x.count(15), 6);
        x.undo();
        due("member(1, 5) after undo", x.member(1, 5), 1);
        refused(x, INDEX, "absent(3)", () -> x.absent(3));
        refused(x, INDEX, "absent(-1)", () -> x.absent(-1));
        refused(x, INDEX, "absent(8)", () -> x.absent(8));
        x.week();
        due("nobody is absent behind the week", x.count(14), 0);
    }

    private static void week() {
        promise = "6";
        weekOfOneLoan();
        weekOfSharedDues();
        weekWithoutHelpers();
        weekOfMissedNothing();
        weekOfChairs();
        JointLoans x = new JointLoans();
        weeks(x, 999);
        due("the last week", x.count(0), 999);
        refused(x, STATE, "week() at 999", x::week);
    }

    private static void weekOfOneLoan() {
        JointLoans x = group(2);
        due("week() without loans", x.week(), 0);
        due("fund", x.count(4), 10);
        x.lend(0, 200, 4);
        x.lend(1, 150, 2);
        due("week()", x.week(), 126);
        dueMember(x, 0, 200, 200, 150, 3, 51, 0, 0, 0, 0, 0, 0, 0, 10, 0);
        dueMember(x, 1, 200, 150, 75, 1, 75, 0, 0, 0, 0, 0, 0, 0, 10, 0);
        dueCounts(x, 2, 0, 0, 2, 20, 225, 0, 0, 0, 350, 1, 126, 225, 0, 0, 6);
        due("week()", x.week(), 126);
        due("week()", x.week(), 51);
        due("week()", x.week(), 51);
        dueCounts(x, 5, 0, 1, 2, 50, 0, 0, 0, 0, 350, 4, 354, 0, 0, 0, 6);
        due("week() without loans", x.week(), 0);
        x.set(1, 0);
        x.week();
        due("nothing is saved", x.count(4), 60);
        x.set(1, 99);
        away(x, 1);
        x.week();
        due("one saves 99", x.count(4), 159);
        due("who is absent does not save", x.member(1, 12), 30);
        due("who is there does", x.member(0, 12), 129);
    }

    private static void weekOfSharedDues() {
        JointLoans x = group(3);
        x.week();
        x.lend(0, 200, 4);
        away(x, 0);
        due("week()", x.week(), 51);
        dueMember(x, 0, 200, 200, 150, 3, 51, 0, 1, 1, 0, 15, 36, 0, 5, 0);
        dueMember(x, 1, 200, 0, 0, 0, 0, 0, 0, 0, 0, 0, 0, 18, 10, 18);
        dueCounts(x, 2, 0, 0, 3, 10, 150, 0, 15, 36, 200, 1, 51, 150, 1, 0, 6);

        JointLoans y = group(4);
        y.lend(1, 100, 1);
        away(y, 1);
        due("week()", y.week(), 100);
        due("owes(1, 0)", y.owes(1, 0), 34);
        due("owes(1, 2)", y.owes(1, 2), 33);
        due("owes(1, 3)", y.owes(1, 3), 33);
        due("owes(1, 1)", y.owes(1, 1), 0);

        JointLoans z = group(4);
        z.week();
        z.lend(2, 100, 1);
        z.lend(1, 101, 2);
        away(z, 1, 2);
        due("week()", z.week(), 150);
        due("the lower one has the fund's money", z.member(1, 9), 20);
        due("the greater one has none", z.member(2, 9), 0);
        due("owes(1, 0)", z.owes(1, 0), 15);
        due("owes(1, 3)", z.owes(1, 3), 15);
        due("owes(2, 0)", z.owes(2, 0), 50);
        due("owes(2, 3)", z.owes(2, 3), 50);
        due("an absent one helps nobody", z.owes(2, 1), 0);
        due("paid for others", z.member(3, 13), 65);
        due("what is saved comes after the dues", z.count(4), 10);
        weekOfDebtsBothWays();
    }

    private static void weekOfDebtsBothWays() {
        JointLoans x = group(2);
        x.set(1, 0);
        x.lend(0, 100, 2);
        x.lend(1, 60, 2);
        away(x, 0);
        due("week()", x.week(), 80);
        away(x, 1);
        due("week()", x.week(), 80);
        due("owes(0, 1)", x.owes(0, 1), 50);
        due("owes(1, 0)", x.owes(1, 0), 30);
        due("what they owe one another", x.count(8), 80);
    }

    private static void weekWithoutHelpers() {
        JointLoans x = group(1);
        x.week();
        x.lend(0, 200, 2);
        away(x, 0);
        due("the fund pays what it has", x.week(), 5);
        dueMember(x, 0, 200, 200, 100, 1, 101, 0, 1, 1, 96, 5, 0, 0, 5, 0);
        dueCounts(x, 2, 0, 0, 1, 0, 100, 96, 5, 0, 200, 1, 5, 196, 1, 0, 5);
        away(x, 0);
        due("the fund has nothing", x.week(), 0);
        due("it owes the bank", x.count(6), 197);
        due("balance", x.count(12), 197);
        due("missed", x.member(0, 6), 2);

        JointLoans y = group(2);
        weeks(y, 10);
        y.lend(1, 100, 1);
        away(y, 0, 1);
        due("the fund pays it all", y.week(), 100);
        due("fund", y.count(4), 0);
        due("owes the fund", y.count(7), 100);
        due("owes the bank", y.count(6), 0);
    }

    private static void weekOfMissedNothing() {
        JointLoans x = group(2);
        x.lend(0, 10, 52);
        away(x, 0);
        due("week() with a due of 0", x.week(), 0);
        due("it is missed all the same", x.member(0, 7), 1);
        due("nobody owes anything", x.count(7) + x.count(8), 0);
        away(x, 1);
        x.week();
        due("without a loan nothing is missed", x.member(1, 7), 0);
        due("missed so far", x.count(13), 1);
    }

    private static void weekOfChairs() {
        JointLoans x = group(3);
        int[] want = {0, 0, 0, 1, 1, 1, 1, 2, 2, 2, 2, 0};
        for (int chair : want) {
            x.week();
            due("the chair in week " + x.count(0), x.count(2), chair);
        }
        x.set(2, 5);
        weeks(x, 2);
        due("the chair in week 14", x.count(2), 0);
        x.week();
        due("the chair in week 15", x.count(2), 1);
        x.set(2, 1);
        weeks(x, 1);
        x.help(0, 1);
        x.week();
        due("who has debts is no chair", x.count(2), 1);
        x.help(2, 1);
        x.week();
        due("the only one without debts stays", x.count(2), 1);
        x.lend(1, 200, 1);
        away(x, 1);
        x.week();
        due("all have debts", x.count(2), -1);
        x.week();
        due("still no chair", x.count(2), -1);
        x.payBack(2, 1);
        x.week();
        due("the only one without debts", x.count(2), 2);
        x.payBack(0, 1);
        x.week();
        due("behind the greatest one the lowest", x.count(2), 0);

        JointLoans y = group(2);
        y.set(2, 1);
        y.lend(0, 20, 1);
        y.lend(1, 20, 1);
        away(y, 0, 1);
        y.week();
        due("no chair", y.count(2), -1);
        y.payBack(1, 20);
        y.payBack(0, 20);
        y.week();
        due("without a chair the lowest one is asked first", y.count(2), 0);
    }

    private static void payBack() {
        promise = "7";
        JointLoans x = withAllDebts();
        dueMember(x, 0, 200, 200, 50, 1, 51, 0, 2, 2, 51, 15, 36, 0, 5, 0);
        due("paid so far", x.count(11), 102);
        due("payBack(0, 60)", x.payBack(0, 60), 60);
        due("owes the bank", x.member(0, 8), 0);
        due("owes the fund", x.member(0, 9), 6);
        due("paid so far", x.count(11), 153);
        due("fund", x.count(4), 19);
        due("balance", x.count(12), 50);
        due("payBack(0, 20)", x.payBack(0, 20), 20);
        due("fund", x.count(4), 25);
        due("owes(0, 1)", x.owes(0, 1), 4);
        due("owes(0, 2)", x.owes(0, 2), 18);
        due("what others owe to 1", x.member(1, 11), 4);
        due("paid for others so far", x.member(1, 13), 18);
        refused(x, INDEX, "payBack(3, 0)", () -> x.payBack(3, 0));
        refused(x, INDEX, "payBack(-1, 1)", () -> x.payBack(-1, 1));
        refused(x, ARGUMENT, "payBack(0, 0)", () -> x.payBack(0, 0));
        refused(x, ARGUMENT, "payBack(0, 2001)", () -> x.payBack(0, 2001));
        refused(x, ARGUMENT, "payBack(1, 0)", () -> x.payBack(1, 0));
        refused(x, STATE, "payBack(1, 1)", () -> x.payBack(1, 1));
        due("payBack(0, 2000)", x.payBack(0, 2000), 22);
        refused(x, STATE, "payBack(0, 1) without debts", () -> x.payBack(0, 1));
        due("paid so far", x.count(11), 153);
        x.undo();
        due("owes(0, 1) after undo", x.owes(0, 1), 4);
        due("payBack(0, 1)", x.payBack(0, 1), 1);
        due("owes(0, 1)", x.owes(0, 1), 3);
    }

    private static void help() {
        promise = "8";
        JointLoans x = group(3);
        refused(x, STATE, "help(1, 1) out of nothing", () -> x.help(1, 1));
        x.week();
        refused(x, INDEX, "help(3, 0)", () -> x.help(3, 0));
        refused(x, INDEX, "help(-1, 1)", () -> x.help(-1, 1));
        refused(x, ARGUMENT, "help(1, 0)", () -> x.help(1, 0));
        refused(x, ARGUMENT, "help(0, 2001)", () -> x.help(0, 2001));
        refused(x, STATE, "help(0, 1) to the chair", () -> x.help(0, 1));
        refused(x, STATE, "help(1, 8) of 15", () -> x.help(1, 8));
        refused(x, STATE, "help(1, 2000) of 15", () -> x.help(1, 2000));
        due("help(1, 7) of 15", x.help(1, 7), 8);
        due("owes the fund", x.member(1, 9), 7);
        due("owes the bank", x.count(6), 0);
        refused(x, STATE, "help(1, 1) to one who owes the fund", () -> x.help(1, 1));
        due("help(2, 4) of 8", x.help(2, 4), 4);
        x.undo();
        x.set(3, 100);
        due("help(2, 8) of 8", x.help(2, 8), 0);
        x.undo();
        x.set(3, 0);
        refused(x, STATE, "help(2, 1) of none", () -> x.help(2, 1));
        x.payBack(1, 7);
        x.set(3, 7);
        due("help(1, 1) at 7 hundredths of 15", x.help(1, 1), 14);

        JointLoans y = group(2);
        y.set(2, 1);
        weeks(y, 1);
        due("the chair", y.count(2), 1);
        refused(y, STATE, "help(1, 1) to the chair", () -> y.help(1, 1));
        due("help(0, 5)", y.help(0, 5), 5);
        y.lend(1, 20, 1);
        away(y, 1);
        y.week();
        due("no chair", y.count(2), -1);
        y.payBack(0, 5);
        due("fund", y.count(4), 10);
        refused(y, STATE, "help(0, 1) without a chair", () -> y.help(0, 1));

        JointLoans z = group(3);
        z.lend(1, 100, 1);
        away(z, 1);
        z.week();
        due("owes members", z.member(1, 10), 100);
        due("fund", z.count(4), 10);
        due("help(1, 5) to one who owes members alone", z.help(1, 5), 5);
    }

    private static void cycle() {
        promise = "9";
        JointLoans x = group(3);
        due("cycle()", x.cycle(), 1);
        due("count(1)", x.count(1), 1);
        due("limit", x.member(0, 0), 300);
        x.lend(0, 90, 3);
        refused(x, STATE, "cycle() with a loan", x::cycle);
        x.lend(1, 10, 1);
        away(x, 0, 1);
        x.week();
        away(x, 0);
        x.week();
        away(x, 0);
        x.week();
        due("missed of 0", x.member(0, 6), 3);
        due("missed of 1", x.member(1, 6), 1);
        due("cycle() with debts to others", x.cycle(), 2);
        due("half the limit", x.member(0, 0), 150);
        due("the same limit", x.member(1, 0), 300);
        due("half of it more", x.member(2, 0), 450);
        due("missed in this cycle", x.member(0, 6), 0);
        due("missed so far", x.member(0, 7), 3);
        due("missed so far", x.count(13), 4);
        due("cycle()", x.cycle(), 3);
        due("half of it more", x.member(0, 0), 225);
        x.undo();
        due("the cycle after undo", x.count(1), 2);
        due("the limit after undo", x.member(0, 0), 150);

        JointLoans y = group(1);
        y.lend(0, 20, 2);
        away(y, 0);
        y.week();
        away(y, 0);
        y.week();
        refused(y, STATE, "cycle() with debts to the bank", y::cycle);
        y.payBack(0, 19);
        refused(y, STATE, "cycle() with a debt of 1 to the bank", y::cycle);
        y.payBack(0, 1);
        due("cycle()", y.cycle(), 1);
        due("the same limit for 2 missed ones", y.member(0, 0), 200);
        cycleOfGreatAndSmallLimits();
        due("cycle() without members", new JointLoans().cycle(), 1);
    }

    private static void cycleOfGreatAndSmallLimits() {
        JointLoans x = group(2);
        int[] great = {300, 450, 675, 1012, 1518, 2000, 2000};
        int[] small = {100, 50, 25, 20, 20, 20, 20};
        for (int i = 0; i < great.length; i++) {
            x.lend(0, 10, 3);
            for (int k = 0; k < 3; k++) {
                away(x, 0);
                x.week();
            }
            x.payBack(0, 2000);
            due("ifCycle(0)", x.ifCycle(0), small[i]);
            due("ifCycle(1)", x.ifCycle(1), great[i]);
            x.cycle();
            due("the small limit", x.member(0, 0), small[i]);
            due("the great limit", x.member(1, 0), great[i]);
        }
        due("lend(1, 2000, 52)", x.lend(1, 2000, 52), 48);
    }

    private static void set() {
        promise = "10";
        JointLoans x = new JointLoans();
        int[] least = {0, 0, 1, 0};
        int[] most = {50, 99, 20, 100};
        int[] first = {5, 5, 4, 50};
        for (int i = 0; i < 4; i++) {
            final int setting = i;
            final int below = least[i] - 1;
            final int above = most[i] + 1;
            refused(x, ARGUMENT, "set(" + i + ", " + below + ")", () -> x.set(setting, below));
            refused(x, ARGUMENT, "set(" + i + ", " + above + ")", () -> x.set(setting, above));
            due("set(" + i + ", least)", x.set(i, least[i]), first[i]);
            due("setting(" + i + ")", x.setting(i), least[i]);
            due("set(" + i + ", most)", x.set(i, most[i]), least[i]);
            due("setting(" + i + ")", x.setting(i), most[i]);
            due("set(" + i + ", most) again", x.set(i, most[i]), most[i]);
        }
        due("saved states", x.count(15), 6);
        x.undo();
        x.undo();
        due("setting(3) after undo", x.setting(3), 0);
        x.undo();
        due("setting(3) after undo", x.setting(3), 50);
        refused(x, INDEX, "set(4, 0)", () -> x.set(4, 0));
        refused(x, INDEX, "set(-1, -1)", () -> x.set(-1, -1));
        refused(x, ARGUMENT, "set(0, MAX)", () -> x.set(0, Integer.MAX_VALUE));
        refused(x, ARGUMENT, "set(0, MIN)", () -> x.set(0, Integer.MIN_VALUE));
    }

    private static void append() {
        promise = "11";
        JointLoans x = new JointLoans();
        refused(x, ARGUMENT, "append(32)", () -> x.append(32));
        refused(x, ARGUMENT, "append(127)", () -> x.append(127));
        refused(x, ARGUMENT, "append(-1)", () -> x.append(-1));
        refused(x, ARGUMENT, "append(65536 + 108)", () -> x.append(65536 + 108));
        due("append(33)", x.append(33), 1);
        due("append(126)", x.append(126), 2);
        due("no state is saved", x.count(15), 0);
        for (int i = 3; i <= 60; i++) {
            due("append(119)", x.append(119), i);
        }
        refused(x, STATE, "append(119) to 60", () -> x.append(119));
        refused(x, ARGUMENT, "append(32) to 60", () -> x.append(32));
        due("clearBuffer()", x.clearBuffer(), 60);
    }

    private static void clearBuffer() {
        promise = "12";
        JointLoans x = group(1);
        type(x, "week;w");
        due("clearBuffer()", x.clearBuffer(), 6);
        due("clearBuffer() again", x.clearBuffer(), 0);
        due("no state is saved", x.count(15), 1);
        due("append(119)", x.append(119), 1);
        type(x, "eek");
        due("run()", x.run(), 1);
    }

    private static void dueError(String text, int want) {
        JointLoans x = new JointLoans();
        type(x, text);
        long before = x.digest();
        due("firstError() of " + text, x.firstError(), want);
        due("digest() after it", x.digest(), before);
    }

    private static void firstError() {
        promise = "13";
        String[] complete = {"week", "cycle", "away0", "away7", "pay0*1", "pay7*2000", "help0*1", "help7*2000",
            "loan0*10/1", "loan7*2000/52", "loan3*199/9", "week;week", "away1;pay2*30;help3*40;loan4*50/6;week;cycle"};
        for (String text : complete) {
            for (int end = 0; end <= text.length(); end++) {
                dueError(text.substring(0, end), end);
            }
            dueError(text + "~", text.length());
            dueError(text + ";", text.length() + 1);
            dueError(text + ";;", text.length() + 1);
        }
        // where the sign '?' stands, the character behind it is the error
        String[] mistaken = {"l?x", "loan?l", "loan?8*10/1", "loan0?/10", "loan0*?010/1",
            "loan0*9?/1", "loan0*200?1/1", "loan0*201?0/1", "loan0*10/?0", "loan0*10/5?3", "loan0*10/6?0",
            "loan0*10/52?0", "loan0*?/1", "loan0*10?*1", "loan0*10/?;", "away?8", "away?;", "away0?0", "away0?*1",
            "pay0*?0", "pay0*200?1", "pay0*2000?0", "pay0*?;", "pay0?/", "pay0*1?/1", "help0*?0", "help0*300?0",
            "help0*200?1", "help?9", "week?0", "week?s", "wee?l", "cycle?0", "cycl?o", "?;week", "week;?;week",
            "?Week", "week;?0", "h?a", "a?v", "p?b", "c?i", "?x", "?0", "week;l?;", "pay?/",
            "loan?/*10/1", "loan?:*10/1", "loan0*1?:/1", "loan0*1?.0/1"};
        for (String text : mistaken) {
            int mark = text.indexOf('?');
            dueError(text.substring(0, mark) + text.substring(mark + 1), mark);
        }
        String elevenWeeks = "week;week;week;week;week;week;week;week;week;week;week;";
        dueError(elevenWeeks + "week;", 60);
        dueError(elevenWeeks + "cycle", 60);
        dueError(elevenWeeks + "weekX", 59);
    }

    private static void run() {
        promise = "14";
        runOfAllOrders();
        runUpToTheFirstRefused();
        String[] incomplete = {"", "w", "week;", ";", "loan0", "loan0*", "loan0*9", "loan0*10", "loan0*10/", "away",
            "pay", "pay0", "pay0*", "help0*", "cycl", "week;cycl", "weeks", "away8", "week;week;x"};
        for (String text : incomplete) {
            JointLoans x = group(2);
            type(x, text);
            refused(x, ARGUMENT, "run() of " + text, x::run);
            due("clearBuffer()", x.clearBuffer(), text.length());
        }
        JointLoans y = new JointLoans();
        type(y, "week;week;week;week;week;week;week;week;week;week;week;week");
        due("run() of 12 weeks", y.run(), 12);
        due("the week", y.count(0), 12);
        due("saved states", y.count(15), 1);
    }

    private static void runOfAllOrders() {
        JointLoans x = group(3);
        type(x, "week;loan1*90/3;away1;away1;week;pay1*20;help2*4;week;away2");
        due("run()", x.run(), 9);
        dueCounts(x, 3, 0, 0, 3, 36, 30, 0, 4, 10, 90, 0, 60, 30, 1, 1, 4);
        due("member(1, 10)", x.member(1, 10), 10);
        due("owes(1, 0)", x.owes(1, 0), 3);
        due("owes(1, 2)", x.owes(1, 2), 7);
        due("member(2, 9)", x.member(2, 9), 4);
        due("clearBuffer()", x.clearBuffer(), 0);
        type(x, "week;cycle");
        x.undo();
        due("the week after undo", x.count(0), 0);
        due("the fund after undo", x.count(4), 0);
        due("saved states after undo", x.count(15), 3);
        due("the buffer after undo", x.clearBuffer(), 10);
        type(x, "cycle;cycle");
        due("run()", x.run(), 2);
        due("the cycle", x.count(1), 2);
    }

    private static void runUpToTheFirstRefused() {
        String[] texts = {"week;loan0*201/1;week", "week;away3;week", "week;pay0*1;week", "week;help0*1;week",
            "week;help1*6;week", "week;loan7*10/1;week", "week;pay7*10;week", "week;help7*1;week"};
        for (String text : texts) {
            JointLoans x = group(2);
            type(x, text);
            due("run() of " + text, x.run(), 1);
            due("the week", x.count(0), 1);
            due("saved states", x.count(15), 3);
            due("clearBuffer()", x.clearBuffer(), 0);
            x.undo();
            due("the week after undo", x.count(0), 0);
        }
        JointLoans y = group(1);
        type(y, "loan0*100/1;cycle;week");
        due("run() with a cycle that cannot begin", y.run(), 1);
        due("the week", y.count(0), 0);
        type(y, "away1");
        due("run() with none", y.run(), 0);
        due("it saves a state all the same", y.count(15), 3);
        due("clearBuffer()", y.clearBuffer(), 0);
        due("week()", y.week(), 100);
        y.leave(0);
        type(y, "away0;week");
        due("run() of one who left", y.run(), 0);

        JointLoans z = new JointLoans();
        weeks(z, 998);
        type(z, "week;week;cycle");
        due("run() at week 998", z.run(), 1);
        due("the week", z.count(0), 999);
    }

    private static void undo() {
        promise = "15";
        JointLoans x = group(8);
        due("saved states", x.count(15), 6);
        for (int i = 5; i >= 0; i--) {
            due("undo()", x.undo(), i);
            due("members", x.count(3), i + 2);
            due("saved states", x.count(15), i);
        }
        refused(x, STATE, "undo() without states", x::undo);
        due("join() after it", x.join(), 2);
        due("undo()", x.undo(), 0);

        JointLoans y = withAllDebts();
        JointLoans same = withAllDebts();
        y.payBack(0, 80);
        y.help(1, 2);
        y.lend(2, 100, 7);
        y.absent(1);
        y.week();
        y.set(3, 9);
        for (int i = 0; i < 6; i++) {
            y.undo();
        }
        for (int member = 0; member < 3; member++) {
            for (int what = 0; what < 14; what++) {
                due("member(" + member + ", " + what + ") after undo", y.member(member, what), same.member(member, what));
            }
            for (int other = 0; other < 3; other++) {
                due("owes after undo", y.owes(member, other), same.owes(member, other));
            }
        }
        for (int what = 0; what < 15; what++) {
            due("count(" + what + ") after undo", y.count(what), same.count(what));
        }
        undoKeepsTheBuffer();
    }

    private static void undoKeepsTheBuffer() {
        JointLoans x = group(2);
        type(x, "we");
        x.week();
        type(x, "ek");
        due("undo()", x.undo(), 2);
        due("the buffer stays", x.firstError(), 4);
        due("run()", x.run(), 1);
        due("undo()", x.undo(), 2);
        due("run() has cleared the buffer", x.clearBuffer(), 0);
        x.set(0, 5);
        due("a call that changes nothing saves, too", x.count(15), 3);
        x.member(0, 0);
        x.count(0);
        x.ifAbsent(3, 0);
        x.digest();
        due("a look does not", x.count(15), 3);
    }

    private static void member() {
        promise = "16";
        JointLoans x = withAllDebts();
        away(x, 2);
        dueMember(x, 0, 200, 200, 50, 1, 51, 0, 2, 2, 51, 15, 36, 0, 5, 0);
        dueMember(x, 1, 200, 0, 0, 0, 0, 0, 0, 0, 0, 0, 0, 18, 10, 18);
        dueMember(x, 2, 200, 0, 0, 0, 0, 1, 0, 0, 0, 0, 0, 18, 10, 18);
        refused(x, ARGUMENT, "member(0, 14)", () -> x.member(0, 14));
        refused(x, ARGUMENT, "member(0, -1)", () -> x.member(0, -1));
        refused(x, INDEX, "member(3, 14)", () -> x.member(3, 14));
        refused(x, INDEX, "member(-1, 0)", () -> x.member(-1, 0));
        refused(x, INDEX, "member(8, 0)", () -> x.member(8, 0));
        due("saved states", x.count(15), 6);
    }

    private static void owes() {
        promise = "17";
        JointLoans x = withAllDebts();
        int[][] want = {{0, 18, 18}, {0, 0, 0}, {0, 0, 0}};
        for (int i = 0; i < 3; i++) {
            for (int k = 0; k < 3; k++) {
                due("owes(" + i + ", " + k + ")", x.owes(i, k), want[i][k]);
            }
        }
        refused(x, INDEX, "owes(0, 3)", () -> x.owes(0, 3));
        refused(x, INDEX, "owes(3, 0)", () -> x.owes(3, 0));
        refused(x, INDEX, "owes(-1, 0)", () -> x.owes(-1, 0));
        refused(x, INDEX, "owes(0, -1)", () -> x.owes(0, -1));
        refused(x, INDEX, "owes(0, 8)", () -> x.owes(0, 8));
        x.join();
        due("owes(0, 3)", x.owes(0, 3), 0);
        x.leave(3);
        refused(x, INDEX, "owes(0, 3) of one who left", () -> x.owes(0, 3));
    }

    private static void count() {
        promise = "18";
        JointLoans x = withAllDebts();
        dueCounts(x, 3, 0, 0, 3, 10, 50, 51, 15, 36, 200, 3, 102, 101, 2, 0, 6);
        away(x, 1, 2);
        due("absent ones", x.count(14), 2);
        refused(x, ARGUMENT, "count(16)", () -> x.count(16));
        refused(x, ARGUMENT, "count(-1)", () -> x.count(-1));
        refused(x, ARGUMENT, "count(MAX)", () -> x.count(Integer.MAX_VALUE));

        JointLoans y = group(2);
        y.lend(1, 10, 1);
        away(y, 1);
        y.week();
        y.payBack(1, 10);
        y.leave(1);
        due("the dues of those who left count", y.count(13), 1);
        due("members", y.count(3), 1);
    }

    private static void setting() {
        promise = "19";
        JointLoans x = new JointLoans();
        x.set(0, 7);
        x.set(1, 8);
        x.set(2, 9);
        x.set(3, 10);
        for (int i = 0; i < 4; i++) {
            due("setting(" + i + ")", x.setting(i), 7 + i);
        }
        refused(x, INDEX, "setting(4)", () -> x.setting(4));
        refused(x, INDEX, "setting(-1)", () -> x.setting(-1));
    }

    private static void dueIfAbsent(JointLoans x, int mask, int... want) {
        long before = x.digest();
        for (int what = 0; what < want.length; what++) {
            due("ifAbsent(" + mask + ", " + what + ")", x.ifAbsent(mask, what), want[what]);
        }
        due("digest() after it", x.digest(), before);
    }

    private static void ifAbsent() {
        promise = "20";
        JointLoans x = group(3);
        x.week();
        x.lend(0, 200, 4);
        x.lend(1, 100, 1);
        dueIfAbsent(x, 0, 151, 30, 0, 0, 0);
        dueIfAbsent(x, 1, 151, 10, 0, 36, 18);
        dueIfAbsent(x, 2, 151, 10, 0, 85, 43);
        dueIfAbsent(x, 3, 151, 5, 0, 136, 136);
        dueIfAbsent(x, 4, 151, 25, 0, 0, 0);
        dueIfAbsent(x, 7, 15, 0, 136, 0, 0);
        dueIfAbsent(x, 255, 15, 0, 136, 0, 0);
        dueIfAbsent(x, 248, 151, 30, 0, 0, 0);
        away(x, 0, 1, 2);
        dueIfAbsent(x, 0, 151, 30, 0, 0, 0);
        due("those who are absent are still", x.count(14), 3);
        refused(x, ARGUMENT, "ifAbsent(256, 0)", () -> x.ifAbsent(256, 0));
        refused(x, ARGUMENT, "ifAbsent(-1, 0)", () -> x.ifAbsent(-1, 0));
        refused(x, ARGUMENT, "ifAbsent(0, 5)", () -> x.ifAbsent(0, 5));
        refused(x, ARGUMENT, "ifAbsent(0, -1)", () -> x.ifAbsent(0, -1));

        JointLoans y = withAllDebts();
        dueIfAbsent(y, 0, 51, 25, 51, 36, 0);
        dueIfAbsent(y, 1, 51, 10, 51, 77, 21);
        dueIfAbsent(y, 7, 10, 0, 92, 36, 0);

        JointLoans z = group(2);
        weeks(z, 997);
        z.set(1, 0);
        z.help(0, 2000);
        z.lend(1, 200, 52);
        weeks(z, 2);
        due("the last week", z.count(0), 999);
        dueIfAbsent(z, 0, 4, 7970, 0, 0, 0);
        dueIfAbsent(z, 2, 4, 7966, 0, 0, 0);
    }

    private static void fundLasts() {
        promise = "21";
        JointLoans x = group(3);
        due("without a loan", x.fundLasts(0), -1);
        x.lend(0, 200, 4);
        due("an empty fund", x.fundLasts(0), 0);
        weeks(x, 1);
        due("fund 15, due 51", x.fundLasts(0), 0);
        x.undo();
        x.undo();
        weeks(x, 4);
        due("fund", x.count(4), 60);
        x.lend(0, 200, 4);
        due("60 and 19 for 51", x.fundLasts(0), 1);
        x.undo();
        x.lend(0, 120, 4);
        due("60, 40, 20 for 30", x.fundLasts(0), 2);
        x.undo();
        x.lend(0, 80, 4);
        due("60, 50, 40, 30 for 20", x.fundLasts(0), -1);
        x.undo();
        x.lend(0, 61, 1);
        due("60 for 61", x.fundLasts(0), 0);
        x.undo();
        x.lend(0, 60, 1);
        due("60 for 60", x.fundLasts(0), -1);
        away(x, 1, 2);
        due("only this one is absent", x.fundLasts(0), -1);
        due("another one's loan does not matter", x.fundLasts(1), -1);
        refused(x, INDEX, "fundLasts(3)", () -> x.fundLasts(3));
        refused(x, INDEX, "fundLasts(-1)", () -> x.fundLasts(-1));
        fundLastsLong();
    }

    private static void fundLastsLong() {
        JointLoans x = group(1);
        weeks(x, 1);
        x.lend(0, 103, 52);
        due("5, 4, 3, 2, 1, 0 for 1", x.fundLasts(0), 5);
        x.undo();
        x.lend(0, 55, 52);
        due("5 for 51 times 1 and 4", x.fundLasts(0), 5);
        x.undo();
        x.lend(0, 51, 52);
        due("5 for 51 times 0 and 51", x.fundLasts(0), 51);
        x.join();
        due("5 and 51 times 5 for 51", x.fundLasts(0), -1);
    }

    private static void weakest() {
        promise = "22";
        JointLoans x = group(4);
        due("without loans", x.weakest(), -1);
        x.lend(1, 100, 2);
        x.lend(2, 50, 1);
        x.lend(3, 51, 1);
        due("the greatest due", x.weakest(), 3);
        x.undo();
        due("of several the lowest one", x.weakest(), 1);
        away(x, 0, 2, 3);
        due("absent alone", x.weakest(), 1);
        x.undo();
        x.undo();
        x.undo();
        weeks(x, 1);
        due("fund 20, left 50", x.weakest(), 1);
        x.set(1, 15);
        weeks(x, 1);
        due("no loans", x.weakest(), -1);
        x.lend(2, 79, 1);
        due("79 of 80", x.weakest(), -1);
        x.undo();
        x.lend(2, 80, 1);
        due("80 of 80", x.weakest(), -1);
        x.undo();
        x.lend(2, 81, 1);
        due("81 of 80", x.weakest(), 2);
        x.lend(3, 82, 1);
        due("82 of 80", x.weakest(), 3);

        JointLoans y = group(1);
        y.lend(0, 100, 1);
        due("nobody else would pay", y.weakest(), -1);
        y.join();
        due("now somebody would", y.weakest(), 0);
        y.leave(1);
        due("nobody else would pay", y.weakest(), -1);
    }

    private static void weeksToGo() {
        promise = "23";
        JointLoans x = group(2);
        due("without a loan", x.weeksToGo(), 0);
        x.lend(0, 100, 7);
        x.lend(1, 100, 52);
        due("two loans", x.weeksToGo(), 52);
        x.week();
        due("a week less", x.weeksToGo(), 51);
        x.undo();
        x.undo();
        due("one loan", x.weeksToGo(), 7);
        away(x, 0);
        weeks(x, 7);
        due("over", x.weeksToGo(), 0);
    }

    private static void ifCycle() {
        promise = "24";
        JointLoans x = group(2);
        x.lend(0, 100, 4);
        int[] want = {300, 200, 200, 100, 100};
        for (int i = 0; i < 5; i++) {
            due("ifCycle(0) with " + i + " missed", x.ifCycle(0), want[i]);
            due("ifCycle(1)", x.ifCycle(1), 300);
            away(x, 0);
            x.week();
        }
        refused(x, INDEX, "ifCycle(2)", () -> x.ifCycle(2));
        refused(x, INDEX, "ifCycle(-1)", () -> x.ifCycle(-1));
        due("the limit stays", x.member(0, 0), 200);
    }

    private static void dueShare(JointLoans x, double want) {
        if (x.paidShare() != want) {
            complain("paidShare() answered " + x.paidShare() + ", due is " + want);
        }
    }

    private static void paidShare() {
        promise = "25";
        JointLoans x = group(1);
        dueShare(x, 1.0);
        x.lend(0, 200, 4);
        dueShare(x, 0.0);
        x.week();
        dueShare(x, 51.0 / 201.0);
        away(x, 0);
        x.week();
        dueShare(x, 56.0 / 202.0);
        x.payBack(0, 1);
        dueShare(x, 57.0 / 202.0);
        weeks(x, 2);
        x.payBack(0, 2000);
        dueShare(x, 1.0);
        x.lend(0, 200, 4);
        dueShare(x, 204.0 / 404.0);
    }

    /** The hash of the document, out of the answers of the other calls. */
    private static long hashOf(JointLoans x, String buffer) {
        long hash = 2713;
        for (int what = 0; what < 16; what++) {
            hash = 31 * hash + x.count(what);
        }
        for (int i = 0; i < 4; i++) {
            hash = 31 * hash + x.setting(i);
        }
        for (int i = 0; i < 8; i++) {
            if (isMember(x, i)) {
                hash = hashOfMember(x, i, hash);
            }
        }
        for (int mask : new int[] {0, 1, 255}) {
            for (int what = 0; what < 5; what++) {
                hash = 31 * hash + x.ifAbsent(mask, what);
            }
        }
        hash = 31 * hash + x.weakest();
        hash = 31 * hash + x.weeksToGo();
        hash = 31 * hash + Double.doubleToLongBits(x.paidShare());
        hash = 31 * hash + buffer.length();
        for (int i = 0; i < buffer.length(); i++) {
            hash = 31 * hash + buffer.charAt(i);
        }
        return hash;
    }

    private static long hashOfMember(JointLoans x, int member, long start) {
        long hash = 31 * start + member;
        for (int what = 0; what < 14; what++) {
            hash = 31 * hash + x.member(member, what);
        }
        for (int other = 0; other < 8; other++) {
            if (isMember(x, other)) {
                hash = 31 * hash + x.owes(member, other);
            }
        }
        hash = 31 * hash + x.fundLasts(member);
        return 31 * hash + x.ifCycle(member);
    }

    private static boolean isMember(JointLoans x, int number) {
        try {
            x.member(number, 0);
            return true;
        } catch (IndexOutOfBoundsException e) {
            return false;
        }
    }

    private static void digest() {
        promise = "26";
        JointLoans x = new JointLoans();
        due("digest() of a new object", x.digest(), 3582486603063999321L);
        due("digest() of a new object", x.digest(), hashOf(x, ""));
        type(x, "we~!");
        due("digest() with a buffer", x.digest(), hashOf(x, "we~!"));
        JointLoans y = withAllDebts();
        due("digest() with debts", y.digest(), hashOf(y, ""));
        y.lend(1, 77, 5);
        away(y, 0, 2);
        y.join();
        y.join();
        y.leave(3);
        due("digest() with one who left", y.digest(), hashOf(y, ""));
        for (int i = 0; i < 8; i++) {
            y.week();
            due("digest() in week " + y.count(0), y.digest(), hashOf(y, ""));
        }
        y.payBack(0, 30);
        due("digest() with a payment", y.digest(), hashOf(y, ""));
    }

    public static void main(String[] args) {
        newObject();
        join();
        leave();
        lend();
        absent();
        week();
        payBack();
        help();
        cycle();
        set();
        append();
        clearBuffer();
        firstError();
        run();
        undo();
        member();
        owes();
        count();
        setting();
        ifAbsent();
        fundLasts();
        weakest();
        weeksToGo();
        ifCycle();
        paidShare();
        digest();
        System.out.println(wrong == 0 ? "all answers are as due" : wrong + " answers are not as due");
        if (wrong != 0) {
            System.exit(1);
        }
    }
}
