import java.util.ArrayList;
import java.util.List;

/** Each sentence of the promises 1 to 26 that names a boundary case. */
public final class PromisesBoundariesTest extends Boundaries {
    /** No number without a member is taken. */
    private static void dueNoMembers(String name, NumberCall call) {
        for (int number : NO_MEMBERS) {
            refused(() -> full(), INDEX, name + " of " + number, x -> call.on(x, number));
        }
        refused(() -> new JointLoans(), INDEX, name + " of 0 without members", x -> call.on(x, 0));
        refused(() -> after(group(3), x -> x.leave(1)), INDEX, name + " of one who left", x -> call.on(x, 1));
    }

    private interface NumberCall {
        void on(JointLoans x, int number);
    }

    @In("## Promise 1: A new object")
    private static final class Promise1 {
        @Says("Creates a group without members, with an empty fund and an empty buffer.")
        static void allIsEmpty() {
            JointLoans x = new JointLoans();
            for (int what = 0; what < 16; what++) {
                dueCount(x, what, what == CHAIR ? NONE : 0);
            }
            due("firstError()", x.firstError(), 0);
            due("clearBuffer()", x.clearBuffer(), 0);
            for (int i = 0; i < 8; i++) {
                final int number = i;
                refused(() -> new JointLoans(), INDEX, "member(" + i + ", 0)", y -> y.member(number, 0));
            }
            refused(() -> new JointLoans(), ARGUMENT, "run()", JointLoans::run);
            refused(() -> new JointLoans(), STATE, "undo()", JointLoans::undo);
        }
    }

    @In("## Promise 2: join")
    private static final class Promise2 {
        @Says("Returns the number of the member.")
        static void firstAndLastNumber() {
            due("join()", new JointLoans().join(), 0);
            due("join()", group(7).join(), 7);
        }

        @Says("Throws IllegalStateException if 8 numbers were given")
        static void eightNumbersWereGiven() {
            refused(() -> group(8), STATE, "join() behind 8", JointLoans::join);
            refused(() -> after(group(8), x -> x.leave(7)), STATE, "join() behind 8 and one who left", JointLoans::join);
            due("join() behind 7 and one who left", after(group(7), x -> x.leave(6)).join(), 7);
            due("join() behind 8 and undo()", after(group(8), JointLoans::undo).join(), 7);
        }
    }

    @In("## Promise 3: leave")
    private static final class Promise3 {
        @Says("Lets a member leave, with all that the member saved, out of the fund.")
        static void nothingSavedOrAllOfTheFund() {
            JointLoans nothing = group(1);
            due("leave(0) with nothing saved", nothing.leave(0), 0);
            dueCount(nothing, FUND, 0);
            JointLoans all = groupWithFund(1, 99);
            due("leave(0) with all of the fund", all.leave(0), 99);
            dueCount(all, FUND, 0);
            dueCount(all, MEMBERS, 0);
            JointLoans part = groupWithFund(2, 20);
            due("leave(1) with a part of the fund", part.leave(1), 10);
            dueCount(part, FUND, 10);
        }

        @Says("Throws IndexOutOfBoundsException if there is no such member")
        static void noSuchMember() {
            dueNoMembers("leave()", (x, number) -> x.leave(number));
        }

        @Says("Throws IllegalStateException if the member has a loan")
        static void lastWeekOfALoan() {
            Recipe recipe = () -> after(group(2), x -> x.lend(1, 10, 1));
            refused(recipe, STATE, "leave(1) with a loan", x -> x.leave(1));
            due("leave(1) behind it", after(recipe.make(), JointLoans::week).leave(1), 5);
            due("leave(0) without one", recipe.make().leave(0), 0);
        }

        @Says("or debts, is owed anything by others")
        static void debtOfOne() {
            for (int kind = OWES_BANK; kind <= OWES_MEMBERS; kind++) {
                final int debt = kind;
                refused(() -> withDebtOfOne(debt), STATE, "leave(0) with a debt of kind " + kind, x -> x.leave(0));
                due("leave(0) without it", after(withDebtOfOne(debt), x -> x.payBack(0, 1)).leave(0),
                    kind == OWES_FUND ? 5 : 0);
            }
            refused(() -> withDebtOfOne(OWES_MEMBERS), STATE, "leave(2) who is owed 1", x -> x.leave(2));
            due("leave(1) who is owed nothing any more", withDebtOfOne(OWES_MEMBERS).leave(1), 0);
            due("leave(2) who is owed nothing",
                after(withDebtOfOne(OWES_MEMBERS), x -> x.payBack(0, 1)).leave(2), 0);
        }

        @Says("or the fund has not as much as the member saved")
        static void fundHasOneLess() {
            due("leave(0) with 10 in the fund", helped(10).leave(0), 10);
            refused(() -> helped(11), STATE, "leave(0) with 9 in the fund", x -> x.leave(0));
            refused(() -> helped(20), STATE, "leave(0) with 0 in the fund", x -> x.leave(0));
        }

        /** Of two members who saved 10 each, 1 gets this as help. */
        private static JointLoans helped(int money) {
            JointLoans x = groupWithFund(2, 20);
            x.set(GRANT, 100);
            x.help(1, money);
            return x;
        }
    }

    @In("## Promise 4: lend")
    private static final class Promise4 {
        @Says("sum: 10 to 2000")
        static void sums() {
            due("lend(0, 10, 1)", group(1).lend(0, 10, 1), 10);
            due("lend(0, 2000, 2)", withLimit("uuuuuu").lend(0, 2000, 2), 1010);
            for (int sum : new int[] {MIN, -10, 0, 9, 2001, MAX}) {
                refused(() -> withLimit("uuuuuu"), ARGUMENT, "lend(0, " + sum + ", 1)", x -> x.lend(0, sum, 1));
            }
        }

        @Says("weeks: 1 to 52")
        static void weeksOfALoan() {
            due("lend(0, 100, 1)", group(1).lend(0, 100, 1), 100);
            due("lend(0, 104, 52)", group(1).lend(0, 104, 52), 2);
            for (int weeks : new int[] {MIN, -1, 0, 53, MAX}) {
                refused(() -> group(1), ARGUMENT, "lend(0, 100, " + weeks + ")", x -> x.lend(0, 100, weeks));
            }
        }

        @Says("Returns the first due.")
        static void dueOfNothing() {
            due("lend(0, 51, 52)", group(1).lend(0, 51, 52), 0);
            due("lend(0, 52, 52)", group(1).lend(0, 52, 52), 1);
            due("lend(0, 200, 52)", group(1).lend(0, 200, 52), 4);
        }

        @Says("Throws IndexOutOfBoundsException if there is no such member")
        static void noSuchMember() {
            dueNoMembers("lend()", (x, number) -> x.lend(number, 100, 4));
        }

        @Says("Throws IllegalArgumentException if sum or weeks is out of range")
        static void bothOutOfRange() {
            refused(() -> group(1), ARGUMENT, "lend(0, 9, 0)", x -> x.lend(0, 9, 0));
            refused(() -> group(1), ARGUMENT, "lend(0, 2001, 53)", x -> x.lend(0, 2001, 53));
        }

        @Says("Throws IllegalStateException if the member has a loan or debts")
        static void loanOrDebtOfOne() {
            Recipe recipe = () -> after(group(2), x -> x.lend(0, 10, 1));
            refused(recipe, STATE, "lend(0, 10, 1) with a loan", x -> x.lend(0, 10, 1));
            due("lend(0, 10, 1) behind it", after(recipe.make(), JointLoans::week).lend(0, 10, 1), 10);
            due("lend(1, 10, 1) without one", recipe.make().lend(1, 10, 1), 10);
            for (int kind = OWES_BANK; kind <= OWES_MEMBERS; kind++) {
                final int debt = kind;
                refused(() -> withDebtOfOne(debt), STATE, "lend() with a debt of kind " + kind, x -> x.lend(0, 10, 1));
                due("lend() without it", after(withDebtOfOne(debt), x -> x.payBack(0, 1)).lend(0, 10, 1), 10);
            }
            due("lend() to one who is owed 1", withDebtOfOne(OWES_MEMBERS).lend(2, 10, 1), 10);
        }

        @Says("or the sum is above the limit")
        static void sumAboveTheLimit() {
            due("lend(0, 200, 4)", group(1).lend(0, 200, 4), 51);
            refused(() -> group(1), STATE, "lend(0, 201, 4)", x -> x.lend(0, 201, 4));
            refused(() -> group(1), STATE, "lend(0, 2000, 4)", x -> x.lend(0, 2000, 4));
        }
    }

    @In("## Promise 5: absent")
    private static final class Promise5 {
        @Says("Lets a member be absent in this week, or present, if absent.")
        static void backAndForth() {
            JointLoans x = group(2);
            dueMember(x, 0, ABSENT, 0);
            x.absent(0);
            dueMember(x, 0, ABSENT, 1);
            dueMember(x, 1, ABSENT, 0);
            x.absent(0);
            dueMember(x, 0, ABSENT, 0);
        }

        @Says("Returns how many members are absent then.")
        static void fromNoneToEight() {
            JointLoans x = group(8);
            for (int i = 0; i < 8; i++) {
                due("absent(" + i + ")", x.absent(i), i + 1);
            }
            for (int i = 0; i < 8; i++) {
                due("absent(" + i + ")", x.absent(i), 7 - i);
            }
            JointLoans left = group(2);
            left.absent(1);
            left.leave(1);
            due("absent(0) without one who left", left.absent(0), 1);
        }

        @Says("Throws IndexOutOfBoundsException if there is no such member")
        static void noSuchMember() {
            dueNoMembers("absent()", (x, number) -> x.absent(number));
        }
    }

    @In("## Promise 6: week")
    private static final class Promise6 {
        @Says("Returns what the bank was paid in it.")
        static void nothingAndAll() {
            due("week() without members", new JointLoans().week(), 0);
            due("week() without loans", group(8).week(), 0);
            JointLoans x = groupWithFund(8, 0);
            for (int i = 0; i < 8; i++) {
                x.lend(i, 200, 1);
            }
            due("week() of eight dues", x.week(), 1608);
            due("week() behind them", x.week(), 0);
        }

        /** 999 weeks are more than 512 calls can end; the limit is kept all the same. */
        @Says("Throws IllegalStateException if the number of the week would be above 999")
        static void week999() {
            JointLoans x = group(1);
            weeks(x, 998);
            due("week() to 999", x.week(), 0);
            dueCount(x, WEEK, 999);
            long before = x.digest();
            int threw = 0;
            try {
                x.week();
            } catch (IllegalStateException e) {
                threw = 1;
            }
            due("1 if week() at 999 throws", threw, 1);
            due("digest() behind it", x.digest(), before);
            x.undo();
            due("week() to 999 behind undo()", x.week(), 0);
        }
    }

    @In("## Promise 7: payBack")
    private static final class Promise7 {
        @Says("Throws IllegalArgumentException if money is out of range")
        static void moneyOutOfRange() {
            for (int money : new int[] {MIN, -1, 0, 2001, MAX}) {
                refused(() -> full(), ARGUMENT, "payBack(0, " + money + ")", x -> x.payBack(0, money));
            }
        }

        @Says("money: 1 to 2000")
        static void leastAndMostMoney() {
            due("payBack(0, 1)", withAllDebts().payBack(0, 1), 1);
            due("payBack(0, 2000)", withAllDebts().payBack(0, 2000), 102);
            JointLoans x = withLimit("uuuuuu");
            x.set(INTEREST, 50);
            x.lend(0, 2000, 1);
            weekWithout(x, 0);
            due("payBack(0, 2000) of 2100", x.payBack(0, 2000), 2000);
            due("payBack(0, 2000) of 100", x.payBack(0, 2000), 100);
        }

        @Says("Returns how much of it is paid (the rest stays with the member).")
        static void allOrMore() {
            due("payBack(0, 101) of 102", withAllDebts().payBack(0, 101), 101);
            due("payBack(0, 102) of 102", withAllDebts().payBack(0, 102), 102);
            due("payBack(0, 103) of 102", withAllDebts().payBack(0, 103), 102);
        }

        @Says("Throws IndexOutOfBoundsException if there is no such member")
        static void noSuchMember() {
            dueNoMembers("payBack()", (x, number) -> x.payBack(number, 1));
        }

        @Says("Throws IllegalStateException if the member has no debts")
        static void debtOfOneAndOfNone() {
            for (int kind = OWES_BANK; kind <= OWES_MEMBERS; kind++) {
                final int debt = kind;
                due("payBack(0, 2) of kind " + kind, withDebtOfOne(debt).payBack(0, 2), 1);
                refused(() -> after(withDebtOfOne(debt), x -> x.payBack(0, 1)), STATE, "payBack(0, 1) without debts",
                    x -> x.payBack(0, 1));
            }
            refused(() -> withDebtOfOne(OWES_MEMBERS), STATE, "payBack(2, 1) of one who is owed 1", x -> x.payBack(2, 1));
        }
    }

    @In("## Promise 8: help")
    private static final class Promise8 {
        @Says("money: 1 to 2000")
        static void leastAndMostMoney() {
            due("help(1, 1)", withGreatFund().help(1, 1), 2375);
            due("help(1, 2000)", withGreatFund().help(1, 2000), 376);
        }

        @Says("Throws IllegalArgumentException if money is out of range")
        static void moneyOutOfRange() {
            for (int money : new int[] {MIN, -1, 0, 2001, MAX}) {
                refused(() -> withGreatFund(), ARGUMENT, "help(1, " + money + ")", x -> x.help(1, money));
            }
        }

        /** The chair can grant all of 2376. */
        private static JointLoans withGreatFund() {
            JointLoans x = group(8);
            x.set(SAVING, 99);
            x.set(GRANT, 100);
            weeks(x, 3);
            return x;
        }

        @Says("Returns what the fund has then.")
        static void allOfTheFund() {
            JointLoans x = groupWithFund(2, 20);
            x.set(GRANT, 100);
            due("help(1, 20) of 20", x.help(1, 20), 0);
        }

        @Says("Throws IndexOutOfBoundsException if there is no such member")
        static void noSuchMember() {
            dueNoMembers("help()", (x, number) -> x.help(number, 1));
        }

        @Says("Throws IllegalStateException if there is no chair")
        static void noChair() {
            Recipe recipe = () -> {
                JointLoans x = withoutChair();
                x.set(CHAIR_WEEKS, 20);
                x.set(SAVING, 10);
                x.week();
                return x;
            };
            due("the fund", recipe.make().count(FUND), 30);
            refused(recipe, STATE, "help(0, 1) without a chair", x -> x.help(0, 1));
            refused(recipe, STATE, "help(2, 1) without a chair", x -> x.help(2, 1));
            JointLoans y = recipe.make();
            y.payBack(0, 10);
            y.set(CHAIR_WEEKS, 1);
            y.week();
            due("help(1, 1) with a chair", y.help(1, 1), 59);
        }

        @Says("or it is not allowed as told")
        static void notAllowed() {
            Recipe recipe = () -> groupWithFund(3, 15);
            due("help(1, 7) of 15", recipe.make().help(1, 7), 8);
            refused(recipe, STATE, "help(1, 8) of 15", x -> x.help(1, 8));
            refused(recipe, STATE, "help(0, 7) to the chair", x -> x.help(0, 7));
            refused(() -> after(recipe.make(), x -> x.help(1, 1)), STATE, "help(1, 7) again", x -> x.help(1, 7));
            refused(() -> group(3), STATE, "help(1, 1) of an empty fund", x -> x.help(1, 1));
        }
    }

    @In("## Promise 9: cycle")
    private static final class Promise9 {
        @Says("Returns its number.")
        static void firstNumbers() {
            JointLoans x = group(1);
            due("cycle()", x.cycle(), 1);
            due("cycle()", x.cycle(), 2);
            x.undo();
            due("cycle() behind undo()", x.cycle(), 2);
        }

        @Says("Throws IllegalStateException if it cannot begin")
        static void loanOrDebtOfOne() {
            refused(() -> after(group(2), x -> x.lend(1, 10, 1)), STATE, "cycle() with a loan", JointLoans::cycle);
            refused(() -> withDebtOfOne(OWES_BANK), STATE, "cycle() with a debt to the bank", JointLoans::cycle);
            due("cycle() without both", group(2).cycle(), 1);
        }
    }

    @In("## Promise 10: set")
    private static final class Promise10 {
        @Says("setting: 0 to 3")
        static void settings() {
            int[] first = {5, 5, 4, 50};
            for (int setting = 0; setting < 4; setting++) {
                JointLoans x = new JointLoans();
                due("set(" + setting + ", 7)", x.set(setting, 7), first[setting]);
                for (int other = 0; other < 4; other++) {
                    due("setting(" + other + ")", x.setting(other), other == setting ? 7 : first[other]);
                }
            }
        }

        @Says("value: the new value (the interest of loans that there are stays)")
        static void interestOfALoan() {
            JointLoans x = group(2);
            x.lend(0, 200, 3);
            x.set(INTEREST, 50);
            dueMember(x, 0, DUE, 67);
            due("lend(1, 200, 3) at 50", x.lend(1, 200, 3), 76);
            x.set(INTEREST, 0);
            due("week()", x.week(), 143);
            due("week()", x.week(), 143);
            due("week()", x.week(), 147);
            due("lend(0, 200, 3) at 0", x.lend(0, 200, 3), 66);
        }

        @Says("Throws IndexOutOfBoundsException if there is no such setting")
        static void noSuchSetting() {
            for (int setting : new int[] {MIN, -1, 4, MAX}) {
                refused(() -> full(), INDEX, "set(" + setting + ", 7)", x -> x.set(setting, 7));
            }
        }

        @Says("Throws IllegalArgumentException if value is out of range")
        static void valueOutOfRange() {
            int[] below = {-1, -1, 0, -1};
            int[] above = {51, 100, 21, 101};
            for (int i = 0; i < 4; i++) {
                final int setting = i;
                refused(() -> full(), ARGUMENT, "set(" + i + ", below)", x -> x.set(setting, below[setting]));
                refused(() -> full(), ARGUMENT, "set(" + i + ", above)", x -> x.set(setting, above[setting]));
                JointLoans x = new JointLoans();
                x.set(setting, below[setting] + 1);
                due("set(" + i + ", most)", x.set(setting, above[setting] - 1), below[setting] + 1);
                due("setting(" + i + ")", x.setting(setting), above[setting] - 1);
            }
        }
    }

    @In("## Promise 11: append")
    private static final class Promise11 {
        @Says("code: the character code, 33 to 126")
        static void codes() {
            JointLoans x = new JointLoans();
            due("append(33)", x.append(33), 1);
            due("append(126)", x.append(126), 2);
            due("the digest of both", x.digest(), hashOf(x, "!~"));
        }

        @Says("Returns the new length of the buffer.")
        static void lengthsTo60() {
            JointLoans x = group(2);
            for (int i = 1; i <= 60; i++) {
                due("append()", x.append(32 + i), i);
            }
            dueCount(x, STATES, 2);
        }

        @Says("Throws IllegalArgumentException if code is not 33 to 126")
        static void codesOutOfRange() {
            for (int code : new int[] {MIN, -1, 0, 32, 127, 128, 65536 + 119, MAX}) {
                refused(() -> full(), ARGUMENT, "append(" + code + ")", x -> x.append(code));
            }
        }

        @Says("Throws IllegalStateException if the buffer has 60 characters")
        static void sixtyCharacters() {
            refused(() -> fullWith(ELEVEN_WEEKS + "cycle"), STATE, "append(33) to 60", x -> x.append(33));
            refused(() -> fullWith(ELEVEN_WEEKS + "cycle"), STATE, "append(126) to 60", x -> x.append(126));
            due("append(126) to 59", fullWith(ELEVEN_WEEKS + "cycl").append(126), 60);
            due("append(126) behind clearBuffer()",
                after(fullWith(ELEVEN_WEEKS + "cycle"), JointLoans::clearBuffer).append(126), 1);
        }
    }

    @In("## Promise 12: clearBuffer")
    private static final class Promise12 {
        @Says("Clears the buffer.")
        static void nothingIsLeft() {
            JointLoans x = fullWith(ELEVEN_WEEKS + "x");
            x.clearBuffer();
            due("firstError()", x.firstError(), 0);
            due("append('w')", x.append('w'), 1);
            due("firstError()", x.firstError(), 1);
            unchanged(() -> fullWith(""), "clearBuffer() of an empty one", JointLoans::clearBuffer);
        }

        @Says("Returns the length that it had.")
        static void lengths() {
            due("clearBuffer() of 0", new JointLoans().clearBuffer(), 0);
            due("clearBuffer() of 1", typed(new JointLoans(), "x").clearBuffer(), 1);
            JointLoans x = typed(new JointLoans(), ELEVEN_WEEKS + "cycle");
            due("clearBuffer() of 60", x.clearBuffer(), 60);
            due("clearBuffer() again", x.clearBuffer(), 0);
            dueCount(x, STATES, 0);
        }
    }

    @In("## Promise 13: firstError")
    private static final class Promise13 {
        @Says("Returns the index of the first character that is a syntax error")
        static void firstAndLastIndex() {
            due("firstError() of ~", typed(new JointLoans(), "~").firstError(), 0);
            due("firstError() of ;week", typed(new JointLoans(), ";week").firstError(), 0);
            due("firstError() of week~", typed(new JointLoans(), "week~").firstError(), 4);
            due("firstError() of w~e~", typed(new JointLoans(), "w~e~").firstError(), 1);
            due("firstError() of a 60th", typed(new JointLoans(), ELEVEN_WEEKS + "cycl~").firstError(), 59);
        }

        @Says("the length of the buffer if there is none")
        static void lengthsFrom0To60() {
            String text = ELEVEN_WEEKS + "cycle";
            JointLoans x = group(1);
            due("firstError() of nothing", x.firstError(), 0);
            for (int i = 0; i < 60; i++) {
                x.append(text.charAt(i));
                due("firstError() of " + (i + 1), x.firstError(), i + 1);
            }
            dueCount(x, STATES, 1);
        }
    }

    @In("## Promise 14: run")
    private static final class Promise14 {
        @Says("Carries out the orders in the buffer as lend(), absent(), payBack(), help(), week() and cycle() do, one "
            + "after the other")
        static void oneOrderOfEach() {
            dueSame("loan2*200/7", 1, x -> x.lend(2, 200, 7));
            dueSame("away1", 1, x -> x.absent(1));
            dueSame("pay0*80", 1, x -> x.payBack(0, 80));
            dueSame("help1*9", 1, x -> x.help(1, 9));
            dueSame("week", 1, x -> x.week());
            dueSame("week;week;week;pay0*60;cycle", 5, x -> {
                weeks(x, 3);
                x.payBack(0, 60);
                x.cycle();
            });
            dueSame("loan2*10/52;away2;away1;away0;week;pay2*2000;week", 5, x -> {
                x.lend(2, 10, 52);
                x.absent(1);
                x.absent(0);
                x.week();
            });
        }

        @Says("up to the first one whose method would throw an exception")
        static void firstRefusedOrder() {
            for (String refusedOrder : new String[] {"loan3*10/1", "loan7*10/1", "loan1*10/1", "loan0*10/1",
                "loan2*201/1", "away3", "away7", "pay3*1", "pay7*1", "pay1*1", "pay2*2000", "help3*1", "help7*1",
                "help0*1", "help1*10", "cycle"}) {
                dueSame(refusedOrder + ";week", 0, x -> { });
                dueSame("away1;" + refusedOrder + ";week", 1, x -> x.absent(1));
                dueSame("away1;" + refusedOrder, 1, x -> x.absent(1));
            }
            JointLoans x = typed(group(2), ELEVEN_WEEKS + "away2");
            due("run() to the last one, which is refused", x.run(), 11);
            JointLoans y = typed(group(2), ELEVEN_WEEKS + "away1");
            due("run() of twelve", y.run(), 12);
            dueMember(y, 1, ABSENT, 1);
        }

        @Says("(away lets a member be absent, also one who is: then nothing changes)")
        static void awayTwice() {
            dueSame("away1", 1, x -> x.absent(1));
            dueSame("away1;away1", 2, x -> x.absent(1));
            dueSame("away2", 1, x -> { });
            dueSame("away2;away2;away2;away1", 4, x -> x.absent(1));
        }

        /** The orders carry out so many, and bring just what the calls bring, but for the saved states. */
        private static void dueSame(String text, int carriedOut, Call calls) {
            JointLoans x = fullWith(text);
            JointLoans y = full();
            calls.on(y);
            due("run() of " + text, x.run(), carriedOut);
            due("all behind run() of " + text, looksAtState(x), looksAtState(y));
        }

        @Says("and clears the buffer")
        static void bufferIsEmptyBehindIt() {
            for (String text : new String[] {"week", "away7", ELEVEN_WEEKS + "cycle", "cycle;week"}) {
                JointLoans x = fullWith(text);
                x.run();
                due("firstError() behind run() of " + text, x.firstError(), 0);
                due("clearBuffer() behind run() of " + text, x.clearBuffer(), 0);
            }
        }

        @Says("Undoable, as one call, also if none is carried out.")
        static void oneStateForAll() {
            for (String text : new String[] {"week", "away7", ELEVEN_WEEKS + "week", "cycle;week", "week;cycle"}) {
                JointLoans x = fullWith(text);
                x.run();
                dueCount(x, STATES, 5);
                due("undo()", x.undo(), 4);
                due("all behind undo() of " + text, looksAtState(x), looksAtState(full()));
            }
        }

        @Says("Returns how many are carried out.")
        static void fromNoneToTwelve() {
            due("run() of none", fullWith("away3").run(), 0);
            due("run() of one", fullWith("week").run(), 1);
            due("run() of one of two", fullWith("week;away3").run(), 1);
            due("run() of two", fullWith("week;week").run(), 2);
            due("run() of twelve", fullWith(ELEVEN_WEEKS + "week").run(), 12);
        }

        @Says("Throws IllegalArgumentException if the buffer is not complete orders as a text")
        static void incompleteOrders() {
            for (String text : new String[] {"", "w", "wee", "week;", ";", ";week", "week;;week", "weekk", "loan0*9",
                "loan0*9/1", "loan0*10", "loan0*10/", "loan0*10/0", "loan0*10/53", "loan0*2001/1", "loan8*10/1",
                "away", "away8", "pay0*", "pay0*0", "pay0*2001", "help0*", "help0*01", "cycl", "week;cycl",
                ELEVEN_WEEKS, ELEVEN_WEEKS + "loan0", ELEVEN_WEEKS + "weekx"}) {
                refused(() -> fullWith(text), ARGUMENT, "run() of " + text, JointLoans::run);
            }
        }
    }

    @In("## Promise 15: undo")
    private static final class Promise15 {
        @Says("Restores the latest saved state, and drops it.")
        static void latestOneFirst() {
            JointLoans x = group(3);
            x.undo();
            dueCount(x, MEMBERS, 2);
            x.undo();
            dueCount(x, MEMBERS, 1);
            x.undo();
            dueCount(x, MEMBERS, 0);
            dueCount(x, CHAIR, NONE);
        }

        @Says("Returns how many saved states are left.")
        static void fromFiveToNone() {
            JointLoans x = group(8);
            for (int left = 5; left >= 0; left--) {
                due("undo()", x.undo(), left);
                dueCount(x, STATES, left);
                dueCount(x, MEMBERS, left + 2);
            }
            due("undo() of one", after(new JointLoans(), JointLoans::week).undo(), 0);
        }

        @Says("Throws IllegalStateException if there is none")
        static void noSavedState() {
            refused(() -> new JointLoans(), STATE, "undo() of a new object", JointLoans::undo);
            refused(() -> after(group(1), JointLoans::undo), STATE, "undo() of one state, twice", JointLoans::undo);
            refused(() -> after(group(8), PromisesBoundariesTest::undoSix), STATE, "undo() of six, seven times", JointLoans::undo);
        }
    }

    private static void undoSix(JointLoans x) {
        for (int i = 0; i < 6; i++) {
            x.undo();
        }
    }

    @In("## Promise 16: member")
    private static final class Promise16 {
        @Says("0: the limit; 1: the sum of the loan, 2: what is left of it, 3: its weeks that are left, 4: the next due, "
            + "0 for all of these without a loan")
        static void withAndWithoutALoan() {
            JointLoans x = group(1);
            dueLoan(x, 0, 0, 0, 0);
            x.lend(0, 200, 2);
            dueLoan(x, 200, 200, 2, 101);
            x.week();
            dueLoan(x, 200, 100, 1, 101);
            x.week();
            dueLoan(x, 0, 0, 0, 0);
            dueMember(x, 0, LIMIT, 200);
            x.lend(0, 10, 52);
            dueLoan(x, 10, 10, 52, 0);
        }

        private static void dueLoan(JointLoans x, int... values) {
            for (int i = 0; i < values.length; i++) {
                dueMember(x, 0, SUM + i, values[i]);
            }
        }

        @Says("5: 1 if absent, otherwise 0")
        static void absentOrNot() {
            JointLoans x = group(2);
            x.absent(1);
            dueMember(x, 0, ABSENT, 0);
            dueMember(x, 1, ABSENT, 1);
            x.week();
            dueMember(x, 1, ABSENT, 0);
        }

        @Says("6: dues that were missed in this cycle; 7: dues that were missed so far")
        static void missedBeforeAndBehindACycle() {
            JointLoans x = group(1);
            missDues(x, 2);
            dueMember(x, 0, MISSED_IN_CYCLE, 2);
            dueMember(x, 0, MISSED, 2);
            x.cycle();
            dueMember(x, 0, MISSED_IN_CYCLE, 0);
            dueMember(x, 0, MISSED, 2);
            x.absent(0);
            x.week();
            due("missed without a loan", x.member(0, MISSED), 2);
        }

        @Says("8: what the member owes to the bank; 9: to the fund; 10: to other members; 11: what others owe to the member")
        static void eachKindOfDebt() {
            for (int kind = OWES_BANK; kind <= OWES_MEMBERS; kind++) {
                JointLoans x = withDebtOfOne(kind);
                for (int what = OWES_BANK; what <= OWES_MEMBERS; what++) {
                    dueMember(x, 0, what, what == kind ? 1 : 0);
                    dueMember(x, 2, what, 0);
                }
                dueMember(x, 0, IS_OWED, 0);
                dueMember(x, 1, IS_OWED, 0);
                dueMember(x, 2, IS_OWED, kind == OWES_MEMBERS ? 1 : 0);
            }
        }

        @Says("12: what the member saved so far; 13: what the member paid for others so far")
        static void paidBackIsPaidAllTheSame() {
            JointLoans x = withDebtOfOne(OWES_MEMBERS);
            x.payBack(0, 1);
            dueMember(x, 1, PAID_FOR_OTHERS, 5);
            dueMember(x, 2, PAID_FOR_OTHERS, 5);
            dueMember(x, 0, PAID_FOR_OTHERS, 0);
            dueMember(x, 1, SAVED, 0);
            JointLoans y = withDebtOfOne(OWES_FUND);
            dueMember(y, 0, SAVED, 5);
            dueMember(y, 1, PAID_FOR_OTHERS, 0);
        }

        @Says("Throws IndexOutOfBoundsException if there is no such member")
        static void noSuchMember() {
            dueNoMembers("member()", (x, number) -> x.member(number, 0));
        }

        @Says("Throws IllegalArgumentException if what is not 0 to 13")
        static void whatOutOfRange() {
            for (int what : new int[] {MIN, -1, 14, MAX}) {
                refused(() -> full(), ARGUMENT, "member(0, " + what + ")", x -> x.member(0, what));
            }
            JointLoans x = full();
            int[] first = {200, 200, 50, 1, 51, 0, 2, 2, 51, 15, 36, 0, 5, 0};
            for (int what = 0; what <= 13; what++) {
                dueMember(x, 0, what, first[what]);
            }
        }
    }

    @In("## Promise 17: owes")
    private static final class Promise17 {
        @Says("Returns what a member owes another one.")
        static void oneWayAlone() {
            JointLoans x = withDebtOfOne(OWES_MEMBERS);
            for (int i = 0; i < 3; i++) {
                for (int k = 0; k < 3; k++) {
                    due("owes(" + i + ", " + k + ")", x.owes(i, k), i == 0 && k == 2 ? 1 : 0);
                }
            }
            JointLoans y = groupWithFund(8, 0);
            y.lend(7, 10, 1);
            weekWithout(y, 7, 1, 2, 3, 4, 5, 6);
            due("owes(7, 0)", y.owes(7, 0), 10);
            due("owes(7, 7)", y.owes(7, 7), 0);
        }

        @Says("Throws IndexOutOfBoundsException if there is no such member")
        static void noSuchMember() {
            dueNoMembers("owes() of the first", (x, number) -> x.owes(number, 0));
            dueNoMembers("owes() of the second", (x, number) -> x.owes(0, number));
            dueNoMembers("owes() of both", (x, number) -> x.owes(number, number));
        }
    }

    @In("## Promise 18: count")
    private static final class Promise18 {
        @Says("2: the chair, NONE if there is none")
        static void noChair() {
            dueCount(new JointLoans(), CHAIR, NONE);
            dueCount(group(1), CHAIR, 0);
            dueCount(after(group(1), x -> x.leave(0)), CHAIR, NONE);
            dueCount(withoutChair(), CHAIR, NONE);
        }

        @Says("3: members")
        static void fromNoneToEight() {
            JointLoans x = new JointLoans();
            for (int i = 0; i < 8; i++) {
                dueCount(x, MEMBERS, i);
                x.join();
            }
            dueCount(x, MEMBERS, 8);
            leaveAll(x);
            dueCount(x, MEMBERS, 0);
        }

        @Says("13: dues that were missed so far (of members who left, too)")
        static void missedOfOneWhoLeft() {
            JointLoans x = withDebtOfOne(OWES_MEMBERS);
            dueCount(x, 13, 1);
            x.payBack(0, 1);
            x.leave(0);
            dueCount(x, 13, 1);
            x.undo();
            dueCount(x, 13, 1);
        }

        @Says("14: members that are absent; 15: saved states")
        static void absentOnesAndStates() {
            JointLoans x = group(8);
            dueCount(x, ABSENT_ONES, 0);
            for (int i = 0; i < 8; i++) {
                x.absent(i);
            }
            dueCount(x, ABSENT_ONES, 8);
            x.leave(7);
            dueCount(x, ABSENT_ONES, 7);
            dueCount(x, STATES, 6);
            dueCount(new JointLoans(), STATES, 0);
        }

        @Says("Throws IllegalArgumentException if what is not 0 to 15")
        static void whatOutOfRange() {
            for (int what : new int[] {MIN, -1, 16, MAX}) {
                refused(() -> full(), ARGUMENT, "count(" + what + ")", x -> x.count(what));
            }
            JointLoans x = full();
            int[] counts = {3, 0, 0, 3, 10, 150, 51, 15, 36, 300, 3, 102, 201, 2, 1, 4};
            for (int what = 0; what <= 15; what++) {
                dueCount(x, what, counts[what]);
            }
        }
    }

    @In("## Promise 19: setting")
    private static final class Promise19 {
        @Says("setting: 0 to 3")
        static void leastAndMostValues() {
            JointLoans x = new JointLoans();
            int[] most = {50, 99, 20, 100};
            int[] least = {0, 0, 1, 0};
            for (int setting = 0; setting < 4; setting++) {
                x.set(setting, most[setting]);
                due("setting(" + setting + ")", x.setting(setting), most[setting]);
                x.set(setting, least[setting]);
                due("setting(" + setting + ")", x.setting(setting), least[setting]);
            }
        }

        @Says("Returns its value.")
        static void firstToLast() {
            JointLoans x = new JointLoans();
            int[] first = {5, 5, 4, 50};
            for (int setting = 0; setting < 4; setting++) {
                due("setting(" + setting + ")", x.setting(setting), first[setting]);
            }
        }

        @Says("Throws IndexOutOfBoundsException if there is no such setting")
        static void noSuchSetting() {
            for (int setting : new int[] {MIN, -1, 4, MAX}) {
                refused(() -> full(), INDEX, "setting(" + setting + ")", x -> x.setting(setting));
            }
        }
    }

    @In("## Promise 20: ifAbsent")
    private static final class Promise20 {
        /** Fund 15, what is saved 5; the dues of 0, 1 and 2 are 51, 100 and 0. */
        private static JointLoans withTwoLoans() {
            JointLoans x = group(3);
            x.week();
            x.lend(0, 200, 4);
            x.lend(1, 100, 1);
            return x;
        }

        private static void dueIfAbsent(JointLoans x, int mask, int... want) {
            for (int what = 0; what < want.length; what++) {
                due("ifAbsent(" + mask + ", " + what + ")", x.ifAbsent(mask, what), want[what]);
            }
        }

        @Says("absent: the numbers that would be absent, and no others, as a mask: bit k for the number k")
        static void noneOneAndAll() {
            dueIfAbsent(withTwoLoans(), 0, 151, 30, 0, 0, 0);
            dueIfAbsent(withTwoLoans(), 1, 151, 10, 0, 36, 18);
            dueIfAbsent(withTwoLoans(), 2, 151, 10, 0, 85, 43);
            dueIfAbsent(withTwoLoans(), 4, 151, 25, 0, 0, 0);
            dueIfAbsent(withTwoLoans(), 7, 15, 0, 136, 0, 0);
            JointLoans away = withTwoLoans();
            away.absent(0);
            away.absent(1);
            away.absent(2);
            dueIfAbsent(away, 0, 151, 30, 0, 0, 0);
            dueIfAbsent(away, 4, 151, 25, 0, 0, 0);
            dueCount(away, ABSENT_ONES, 3);
            JointLoans eight = group(8);
            eight.lend(7, 70, 1);
            dueIfAbsent(eight, 128, 70, 35, 0, 70, 10);
            dueIfAbsent(eight, 127, 70, 5, 0, 0, 0);
            dueIfAbsent(eight, 254, 70, 5, 0, 70, 70);
            dueIfAbsent(eight, 255, 0, 0, 70, 0, 0);
        }

        @Says("(bits of numbers that are no members do not matter)")
        static void bitsWithoutMembers() {
            dueIfAbsent(withTwoLoans(), 248, 151, 30, 0, 0, 0);
            dueIfAbsent(withTwoLoans(), 249, 151, 10, 0, 36, 18);
            dueIfAbsent(withTwoLoans(), 255, 15, 0, 136, 0, 0);
            dueIfAbsent(new JointLoans(), 255, 0, 0, 0, 0, 0);
            JointLoans left = group(3);
            left.leave(1);
            dueIfAbsent(left, 2, 0, 10, 0, 0, 0);
            dueIfAbsent(left, 5, 0, 0, 0, 0, 0);
            unchanged(() -> group(3), "join() behind ifAbsent(255, 0)", x -> x.ifAbsent(255, 0));
            due("member(0, 5) of who joins", joinedBehindAll().member(0, ABSENT), 0);
        }

        private static JointLoans joinedBehindAll() {
            JointLoans x = new JointLoans();
            x.ifAbsent(255, 0);
            x.join();
            return x;
        }

        @Says("0: what the bank would be paid; 1: the fund then; 2: what members would owe the bank then; 3: what they "
            + "would owe one another then")
        static void debtsOfBeforeCountToo() {
            dueIfAbsent(new JointLoans(), 0, 0, 0, 0, 0, 0);
            dueIfAbsent(withAllDebts(), 0, 51, 25, 51, 36, 0);
            dueIfAbsent(withAllDebts(), 1, 51, 10, 51, 77, 21);
            dueIfAbsent(withAllDebts(), 7, 10, 0, 92, 36, 0);
        }

        @Says("4: the most that a helper would pay for others")
        static void mostOfOneHelper() {
            dueIfAbsent(withTwoLoans(), 3, 151, 5, 0, 136, 136);
            JointLoans x = groupWithFund(4, 0);
            x.lend(0, 10, 1);
            x.lend(1, 11, 1);
            x.lend(2, 13, 1);
            dueIfAbsent(x, 3, 34, 0, 0, 21, 11);
            dueIfAbsent(x, 7, 34, 0, 0, 34, 34);
            JointLoans before = withDebtOfOne(OWES_MEMBERS);
            dueIfAbsent(before, 0, 0, 0, 0, 1, 0);
        }

        @Says("Throws IllegalArgumentException if absent is not 0 to 255")
        static void maskOutOfRange() {
            for (int mask : new int[] {MIN, -1, 256, MAX}) {
                refused(() -> full(), ARGUMENT, "ifAbsent(" + mask + ", 0)", x -> x.ifAbsent(mask, 0));
            }
        }

        @Says("or what is not 0 to 4")
        static void whatOutOfRange() {
            for (int what : new int[] {MIN, -1, 5, MAX}) {
                refused(() -> full(), ARGUMENT, "ifAbsent(0, " + what + ")", x -> x.ifAbsent(0, what));
            }
            refused(() -> full(), ARGUMENT, "ifAbsent(256, 5)", x -> x.ifAbsent(256, 5));
            due("ifAbsent(255, 4)", full().ifAbsent(255, 4), 0);
        }
    }

    @In("## Promise 21: fundLasts")
    private static final class Promise21 {
        @Says("the others would have to pay for the member for the first time")
        static void fundIsOneShort() {
            dueLasts(2, 0, 10, 1, 0);
            dueLasts(2, 8, 10, 1, 0);
            dueLasts(2, 10, 10, 1, NONE);
            dueLasts(2, 10, 20, 2, 1);
            dueLasts(2, 18, 20, 2, 1);
            dueLasts(2, 20, 20, 2, NONE);
            dueLasts(2, 20, 21, 2, 1);
            dueLasts(2, 22, 21, 2, NONE);
            // with an interest of 1 each due is 51
            dueLasts(3, 48, 200, 4, 0);
            dueLasts(3, 51, 200, 4, 1);
            dueLasts(3, 150, 200, 4, 2);
            dueLasts(3, 201, 200, 4, 3);
            dueLasts(3, 204, 200, 4, NONE);
        }

        @Says("or the bank would not be paid")
        static void withoutOthers() {
            dueLasts(1, 0, 10, 1, 0);
            dueLasts(1, 9, 10, 1, 0);
            dueLasts(1, 10, 10, 1, NONE);
            dueLasts(1, 19, 20, 2, 1);
            dueLasts(1, 20, 20, 2, NONE);
        }

        @Says("Returns in how many weeks, 0 to 100")
        static void weeksFrom0To51() {
            // no loan has more than 52 weeks, so 51 is the most that can be reached
            for (int fund = 0; fund < 52; fund += 2) {
                dueLasts(2, fund, 52, 52, fund);
            }
            dueLasts(1, 51, 52, 52, 51);
            dueLasts(1, 52, 52, 52, NONE);
            dueLasts(1, 0, 51, 52, 51);
            dueLasts(1, 50, 51, 52, 51);
            dueLasts(1, 51, 51, 52, NONE);
        }

        @Says("(the number of whole weeks ahead of that one)")
        static void weeksAheadAndInIt() {
            JointLoans x = groupWithFund(2, 30);
            x.lend(0, 40, 4);
            for (int ahead = 3; ahead >= 0; ahead--) {
                due("fundLasts(0) with " + x.count(FUND), x.fundLasts(0), ahead == 3 ? 3 : NONE);
                due("fundLasts(0) of a fund that goes on", goneOn(3 - ahead).fundLasts(0), ahead);
                x.week();
            }
        }

        /** 0 was absent in so many of the weeks: of a fund of 30 and dues of 10, so many less are there. */
        private static JointLoans goneOn(int weeks) {
            JointLoans x = groupWithFund(2, 30);
            x.lend(0, 40, 4);
            for (int i = 0; i < weeks; i++) {
                weekWithout(x, 0);
            }
            return x;
        }

        /** With nothing saved any more, so many members, this fund, and this loan of 0. */
        private static void dueLasts(int members, int fund, int sum, int weeks, int want) {
            JointLoans x = groupWithFund(members, fund);
            x.lend(0, sum, weeks);
            due("fundLasts(0) of " + fund + " for " + sum + " in " + weeks, x.fundLasts(0), want);
        }

        @Says("in each of which this member alone would be absent")
        static void othersSaveAllTheWhile() {
            JointLoans x = groupWithFund(2, 20);
            x.lend(0, 80, 4);
            due("fundLasts(0) with 0 saved", x.fundLasts(0), 1);
            x.set(SAVING, 13);
            due("fundLasts(0) with 13 saved, 20, 13, 6", x.fundLasts(0), 1);
            x.set(SAVING, 19);
            due("fundLasts(0) with 19 saved: 20, 19", x.fundLasts(0), 1);
            x.set(SAVING, 20);
            due("fundLasts(0) with 20 saved: always 20", x.fundLasts(0), NONE);
            x.absent(1);
            due("fundLasts(0) when another one is absent", x.fundLasts(0), NONE);
            x.lend(1, 200, 1);
            due("fundLasts(0) with a loan of another one", x.fundLasts(0), NONE);
        }

        @Says("NONE if they never would within 100")
        static void neverWithoutALoan() {
            JointLoans x = groupWithFund(2, 0);
            due("fundLasts(0) without loans", x.fundLasts(0), NONE);
            x.lend(1, 100, 1);
            due("fundLasts(0) without a loan", x.fundLasts(0), NONE);
            due("fundLasts(1)", x.fundLasts(1), 0);
            x.week();
            due("fundLasts(1) behind the loan", x.fundLasts(1), NONE);
        }

        @Says("Throws IndexOutOfBoundsException if there is no such member")
        static void noSuchMember() {
            dueNoMembers("fundLasts()", (x, number) -> x.fundLasts(number));
        }
    }

    @In("## Promise 22: weakest")
    private static final class Promise22 {
        @Says("of several the lowest one")
        static void equalOnes() {
            JointLoans x = groupWithFund(8, 0);
            x.lend(7, 50, 1);
            due("weakest()", x.weakest(), 7);
            x.lend(6, 50, 1);
            due("weakest() of two", x.weakest(), 6);
            x.lend(1, 50, 1);
            due("weakest() of three", x.weakest(), 1);
            x.lend(0, 49, 1);
            due("weakest() with one of 49", x.weakest(), 1);
            x.lend(4, 51, 1);
            due("weakest() with one of 51", x.weakest(), 4);
        }

        @Says("with whom alone being absent in this week")
        static void othersAbsentDoNotMatter() {
            JointLoans x = groupWithFund(3, 0);
            x.lend(0, 50, 1);
            x.lend(1, 60, 1);
            x.absent(0);
            x.absent(2);
            due("weakest()", x.weakest(), 1);
            due("those who are absent", x.count(ABSENT_ONES), 2);
        }

        @Says("NONE if nobody would have to pay anything")
        static void nobodyPays() {
            due("weakest() without members", new JointLoans().weakest(), NONE);
            due("weakest() without loans", group(8).weakest(), NONE);
            JointLoans alone = after(group(1), x -> x.lend(0, 200, 1));
            due("weakest() of one alone", alone.weakest(), NONE);
            due("weakest() with another one", after(alone, JointLoans::join).weakest(), 0);
            due("weakest() without it again", after(alone, x -> x.leave(1)).weakest(), NONE);
            for (int sum : new int[] {49, 50, 51}) {
                JointLoans x = groupWithFund(2, 50);
                x.lend(1, sum, 1);
                due("weakest() of " + sum + " with 50", x.weakest(), sum > 50 ? 1 : NONE);
            }
            JointLoans zero = after(group(2), x -> x.lend(0, 10, 52));
            due("weakest() of a due of 0", zero.weakest(), NONE);
        }
    }

    @In("## Promise 23: weeksToGo")
    private static final class Promise23 {
        @Says("Returns the most weeks that are left of a loan, 0 without one.")
        static void from52To0() {
            JointLoans x = group(8);
            due("weeksToGo() without a loan", x.weeksToGo(), 0);
            x.lend(3, 10, 1);
            due("weeksToGo() of 1", x.weeksToGo(), 1);
            x.lend(7, 10, 52);
            x.lend(0, 10, 51);
            for (int left = 52; left > 0; left--) {
                due("weeksToGo()", x.weeksToGo(), left);
                weekWithout(x, left % 8);
            }
            due("weeksToGo() behind the loans", x.weeksToGo(), 0);
            due("weeksToGo() without members", new JointLoans().weeksToGo(), 0);
        }
    }

    @In("## Promise 24: ifCycle")
    private static final class Promise24 {
        @Says("Returns the limit that the member would have, if a new cycle began now (whether it can does not matter).")
        static void cyclesThatCannotBegin() {
            JointLoans x = group(2);
            x.lend(0, 200, 5);
            int[] limits = {300, 200, 200, 100, 100};
            for (int missed = 0; missed < 5; missed++) {
                dueMember(x, 0, MISSED_IN_CYCLE, missed);
                due("ifCycle(0) with a loan and " + missed + " missed", x.ifCycle(0), limits[missed]);
                due("ifCycle(1)", x.ifCycle(1), 300);
                weekWithout(x, 0, 1);
            }
            due("ifCycle(0) with debts to the bank", x.ifCycle(0), 100);
            dueMember(x, 0, LIMIT, 200);
            dueCount(x, CYCLE, 0);
        }

        @Says("Throws IndexOutOfBoundsException if there is no such member")
        static void noSuchMember() {
            dueNoMembers("ifCycle()", (x, number) -> x.ifCycle(number));
        }
    }

    @In("## Promise 25: paidShare")
    private static final class Promise25 {
        @Says("Returns how much of the interest and the loans is paid.")
        static void fromNothingToAll() {
            JointLoans x = group(1);
            x.lend(0, 200, 2);
            dueShare(x, 0.0);
            x.week();
            dueShare(x, 101.0 / 201.0);
            weekWithout(x, 0);
            dueShare(x, 106.0 / 202.0);
            x.payBack(0, 95);
            dueShare(x, 201.0 / 202.0);
            x.payBack(0, 1);
            dueShare(x, 1.0);
        }

        @Says("1.0 if that is 0")
        static void nothingLent() {
            dueShare(new JointLoans(), 1.0);
            JointLoans x = group(8);
            x.week();
            dueShare(x, 1.0);
            x.lend(0, 10, 1);
            dueShare(x, 0.0);
            x.undo();
            dueShare(x, 1.0);
        }
    }

    /** The hash of the document, out of the answers of the other calls. */
    private static long hashOf(JointLoans x, String buffer) {
        List<Long> values = new ArrayList<>();
        for (int what = 0; what < 16; what++) {
            values.add((long) x.count(what));
        }
        for (int setting = 0; setting < 4; setting++) {
            values.add((long) x.setting(setting));
        }
        addMembers(x, values);
        for (int mask : new int[] {0, 1, 255}) {
            for (int what = 0; what < 5; what++) {
                values.add((long) x.ifAbsent(mask, what));
            }
        }
        values.add((long) x.weakest());
        values.add((long) x.weeksToGo());
        values.add(Double.doubleToLongBits(x.paidShare()));
        values.add((long) buffer.length());
        for (int i = 0; i < buffer.length(); i++) {
            values.add((long) buffer.charAt(i));
        }
        long hash = 2713;
        for (long value : values) {
            hash = 31 * hash + value;
        }
        return hash;
    }

    private static void addMembers(JointLoans x, List<Long> values) {
        List<Integer> members = new ArrayList<>();
        for (int number = 0; number < 8; number++) {
            if (isMember(x, number)) {
                members.add(number);
            }
        }
        for (int number : members) {
            values.add((long) number);
            for (int what = 0; what < 14; what++) {
                values.add((long) x.member(number, what));
            }
            for (int other : members) {
                values.add((long) x.owes(number, other));
            }
            values.add((long) x.fundLasts(number));
            values.add((long) x.ifCycle(number));
        }
    }

    @In("## Promise 26: digest")
    private static final class Promise26 {
        @Says("The hash starts at 2713. For each value v of the following list, in order, the hash becomes 31 * hash + v, "
            + "in long arithmetic with overflow.")
        static void hashOfANewObject() {
            due("digest() of a new object", new JointLoans().digest(), 3582486603063999321L);
        }

        private static void dueDigest(JointLoans x, String buffer) {
            due("digest()", x.digest(), hashOf(x, buffer));
        }

        @Says("for each member the number, the properties 0 to 13, what the member owes each member (itself, too), "
            + "fundLasts and ifCycle")
        static void noMemberToEight() {
            dueDigest(new JointLoans(), "");
            dueDigest(group(1), "");
            dueDigest(group(8), "");
            dueDigest(leaveAll(group(8)), "");
            dueDigest(after(group(8), x -> x.leave(0)), "");
            dueDigest(after(group(8), x -> x.leave(7)), "");
            dueDigest(full(), "week;x");
            dueDigest(withDebtOfOne(OWES_MEMBERS), "");
            dueDigest(withoutChair(), "");
        }

        @Says("the length of the buffer and each of its character codes")
        static void nothingTo60Characters() {
            dueDigest(typed(group(1), "!"), "!");
            dueDigest(typed(group(1), "~!"), "~!");
            dueDigest(typed(group(1), ELEVEN_WEEKS + "cycle"), ELEVEN_WEEKS + "cycle");
            JointLoans x = typed(group(1), ELEVEN_WEEKS);
            x.clearBuffer();
            dueDigest(x, "");
            dueDigest(typed(x, "w"), "w");
        }

        @Says("the bits of paidShare (as Double.doubleToLongBits)")
        static void sharesFromNothingToAll() {
            dueDigest(withDebtOfOne(OWES_BANK), "");
            dueDigest(after(withDebtOfOne(OWES_BANK), x -> x.payBack(0, 1)), "");
            dueDigest(after(group(1), x -> x.lend(0, 200, 3)), "");
            JointLoans half = group(1);
            half.lend(0, 20, 2);
            half.week();
            dueShare(half, 0.5);
            dueDigest(half, "");
            // shares from 1 to 34 in 1803, which have exponents far below that of 1
            JointLoans x = withLimit("uuuuuu");
            x.set(INTEREST, 0);
            x.lend(0, 1803, 52);
            x.set(SAVING, 0);
            weekWithout(x, 0);
            for (int money : new int[] {1, 1, 1, 2, 3, 5, 8, 13}) {
                x.payBack(0, money);
                dueShare(x, x.count(PAID) / (double) (x.count(9) + x.count(10)));
                dueDigest(x, "");
            }
        }
    }

    public static void main(String[] args) throws Exception {
        runAll(PromisesBoundariesTest.class);
    }
}
