import java.util.Arrays;
import java.util.List;

/** Each sentence ahead of the promises that names a boundary case, from "What it is" to "Exceptions". */
public final class TermsBoundariesTest extends Boundaries {
    @In("## What it is")
    private static final class WhatItIs {
        @Says("An object is used for at most 512 calls after it has been made")
        static void the512thCallAnswers() {
            JointLoans x = group(1);
            weeks(x, 510);
            due("the 512th call", x.count(FUND), 2550);
            JointLoans y = group(1);
            weeks(y, 510);
            due("the 512th call", y.week(), 0);
            JointLoans z = group(1);
            weeks(z, 510);
            due("the 512th call", z.undo(), 5);
        }
    }

    @In("## Terms")
    private static final class MembersAndLoans {
        @Says("divisions are rounded down")
        static void oneLessThanAWholeNumber() {
            JointLoans part = group(1);
            due("lend(0, 103, 52)", part.lend(0, 103, 52), 1);
            JointLoans interest = group(1);
            due("lend(0, 199, 1)", interest.lend(0, 199, 1), 199);
            JointLoans shares = groupWithFund(4, 0);
            shares.lend(0, 11, 1);
            weekWithout(shares, 0);
            due("owes(0, 3), the least share of 11", shares.owes(0, 3), 3);
            refused(() -> groupWithFund(1, 3), STATE, "help(0, 2) of 3", x -> x.help(0, 2));
            due("ifCycle(0) at 25", withLimit("ddd").ifCycle(0), 37);
            due("half of 675", withLimit("uuud").member(0, LIMIT), 337);
        }

        @Says("There are at most 8 members")
        static void eightMembers() {
            dueCount(group(8), MEMBERS, 8);
            refused(() -> group(8), STATE, "join() of a ninth", JointLoans::join);
        }

        @Says("numbered from 0 in the order in which they came")
        static void numbersFrom0To7() {
            JointLoans x = new JointLoans();
            for (int i = 0; i < 8; i++) {
                due("join()", x.join(), i);
            }
        }

        @Says("one who left has a number all the same, and is no member any more")
        static void numberOfOneWhoLeft() {
            JointLoans x = group(3);
            x.leave(2);
            x.leave(0);
            due("join() behind one who left", x.join(), 3);
            refused(() -> after(group(3), y -> y.leave(0)), INDEX, "member(0, 0) of one who left", y -> y.member(0, 0));
            refused(() -> after(group(3), y -> y.leave(2)), INDEX, "absent(2) of one who left", y -> y.absent(2));
        }

        @Says("(at most 8 numbers are given in all)")
        static void eightNumbersWithoutMembers() {
            JointLoans x = new JointLoans();
            for (int i = 0; i < 8; i++) {
                due("join()", x.join(), i);
                x.leave(i);
            }
            dueCount(x, MEMBERS, 0);
            refused(() -> leaveAll(group(8)), STATE, "join() with 8 numbers and no member", JointLoans::join);
        }

        @Says("There is a number of the week, and one of the cycle, both at first 0.")
        static void weekAndCycleAtFirst() {
            JointLoans x = new JointLoans();
            dueCount(x, WEEK, 0);
            dueCount(x, CYCLE, 0);
            x.week();
            dueCount(x, WEEK, 1);
            dueCount(x, CYCLE, 0);
            x.cycle();
            dueCount(x, WEEK, 1);
            dueCount(x, CYCLE, 1);
        }

        @Says("A member has a limit, at first 200, up to which a loan can be.")
        static void loanUpToTheLimit() {
            JointLoans x = group(8);
            for (int i = 0; i < 8; i++) {
                dueMember(x, i, LIMIT, 200);
            }
            due("lend(7, 200, 1)", x.lend(7, 200, 1), 201);
            refused(() -> group(8), STATE, "lend(7, 201, 1)", y -> y.lend(7, 201, 1));
            JointLoans low = withLimit("dddd");
            dueMember(low, 0, LIMIT, 20);
            due("lend(0, 20, 1) up to the least limit", low.lend(0, 20, 1), 20);
            refused(() -> withLimit("dddd"), STATE, "lend(0, 21, 1)", y -> y.lend(0, 21, 1));
            JointLoans high = withLimit("uuuuuu");
            dueMember(high, 0, LIMIT, 2000);
            due("lend(0, 2000, 1) up to the greatest limit", high.lend(0, 2000, 1), 2010);
            refused(() -> withLimit("uuuuu"), STATE, "lend(0, 1519, 1)", y -> y.lend(0, 1519, 1));
            due("lend(0, 1518, 1)", withLimit("uuuuu").lend(0, 1518, 1), 1525);
        }

        @Says("A loan has a sum, and weeks, 1 to 52.")
        static void weeksOfALoan() {
            JointLoans x = group(2);
            due("lend(0, 100, 1)", x.lend(0, 100, 1), 100);
            due("lend(1, 104, 52)", x.lend(1, 104, 52), 2);
            dueMember(x, 0, WEEKS, 1);
            dueMember(x, 1, WEEKS, 52);
            refused(() -> group(1), ARGUMENT, "lend(0, 100, 0)", y -> y.lend(0, 100, 0));
            refused(() -> group(1), ARGUMENT, "lend(0, 100, 53)", y -> y.lend(0, 100, 53));
        }

        @Says("Its part for a week is the sum divided by the weeks, for the last one of them all that is left")
        static void partOfTheLastWeek() {
            dueParts(200, 1, 200);
            dueParts(200, 2, 100, 100);
            dueParts(200, 3, 66, 66, 68);
            dueParts(199, 4, 49, 49, 49, 52);
            int[] ones = new int[52];
            Arrays.fill(ones, 1);
            dueParts(52, 52, ones);
            ones[51] = 52;
            dueParts(103, 52, ones);
            int[] onlyTheLast = new int[52];
            onlyTheLast[51] = 51;
            dueParts(51, 52, onlyTheLast);
        }

        private static void dueParts(int sum, int weeks, int... parts) {
            JointLoans x = group(1);
            x.set(INTEREST, 0);
            x.lend(0, sum, weeks);
            int left = sum;
            for (int i = 0; i < weeks; i++) {
                dueMember(x, 0, LEFT, left);
                dueMember(x, 0, DUE, parts[i]);
                due("week() of " + sum + " in " + weeks, x.week(), parts[i]);
                left -= parts[i];
            }
            dueMember(x, 0, LEFT, 0);
            dueMember(x, 0, DUE, 0);
        }

        @Says("its interest for each week is the sum times setting 0, divided by 1000")
        static void interestIsRoundedDown() {
            dueInterest(5, 10, 0);
            dueInterest(5, 199, 0);
            dueInterest(5, 200, 1);
            dueInterest(0, 200, 0);
            dueInterest(1, 200, 0);
            dueInterest(27, 37, 0);
            dueInterest(25, 40, 1);
            dueInterest(50, 19, 0);
            dueInterest(50, 20, 1);
            dueInterest(50, 39, 1);
            dueInterest(50, 40, 2);
            dueInterest(50, 199, 9);
            dueInterest(50, 200, 10);
        }

        private static void dueInterest(int setting, int sum, int interest) {
            JointLoans x = group(1);
            x.set(INTEREST, setting);
            due("lend(0, " + sum + ", 1) at " + setting, x.lend(0, sum, 1), sum + interest);
            x.week();
            due("the interest of " + sum + " at " + setting, x.count(10), interest);
        }

        @Says("The due is both together.")
        static void dueOfTheLastWeek() {
            JointLoans x = group(1);
            due("lend(0, 200, 3)", x.lend(0, 200, 3), 67);
            x.week();
            dueMember(x, 0, DUE, 67);
            x.week();
            dueMember(x, 0, DUE, 69);
            due("week()", x.week(), 69);
        }

        @Says("(What is left of a loan is none.)")
        static void loanIsNoDebt() {
            JointLoans x = groupWithFund(2, 20);
            x.set(CHAIR_WEEKS, 1);
            x.lend(1, 100, 4);
            for (int what = OWES_BANK; what <= OWES_MEMBERS; what++) {
                dueMember(x, 1, what, 0);
            }
            x.week();
            due("the chair goes to one with a loan", x.count(CHAIR), 1);
            x.lend(0, 100, 4);
            due("help(0, 10) to one with a loan", x.help(0, 10), 10);
            refused(() -> after(group(1), y -> y.lend(0, 100, 4)), STATE, "payBack(0, 1) with a loan alone",
                y -> y.payBack(0, 1));
        }
    }

    @In("### A week")
    private static final class AWeek {
        @Says("Members can be absent in a week.")
        static void noneAndAllAreAbsent() {
            JointLoans x = groupWithFund(8, 0);
            x.lend(0, 40, 4);
            due("week() with all", weekWithout(x), 10);
            due("week() with none", weekWithout(x, 0, 1, 2, 3, 4, 5, 6, 7), 0);
            due("week() with all but the one", weekWithout(x, 0), 10);
            due("week() with the one alone", weekWithout(x, 1, 2, 3, 4, 5, 6, 7), 10);
            dueMember(x, 0, OWES_BANK, 10);
            dueMember(x, 0, OWES_MEMBERS, 10);
        }

        @Says("For each member with a loan, by ascending numbers: the due comes to the bank.")
        static void lowerNumbersComeFirst() {
            JointLoans x = groupWithFund(3, 30);
            x.lend(1, 20, 1);
            x.lend(0, 20, 1);
            due("week()", weekWithout(x, 0, 1), 40);
            dueMember(x, 0, OWES_FUND, 20);
            dueMember(x, 1, OWES_FUND, 10);
            due("owes(1, 2)", x.owes(1, 2), 10);
            due("week() without a loan", x.week(), 0);
            due("week() without a member", new JointLoans().week(), 0);
        }

        @Says("If the member is not absent, the member pays it. Otherwise the due is missed")
        static void oneIsThereAndOneIsNot() {
            JointLoans x = groupWithFund(2, 0);
            x.lend(0, 20, 1);
            x.lend(1, 30, 1);
            due("week()", weekWithout(x, 1), 50);
            dueMember(x, 0, MISSED, 0);
            dueMember(x, 0, OWES_MEMBERS, 0);
            dueMember(x, 1, MISSED, 1);
            dueMember(x, 1, OWES_MEMBERS, 30);
            weekWithout(x, 0, 1);
            dueMember(x, 0, MISSED, 0);
            dueMember(x, 1, MISSED, 1);
        }

        @Says("the fund pays as much of it as it has, which the member owes to the fund then")
        static void fundHasMoreOrLessThanTheDue() {
            dueCovered(50, 49, 49, 0, 1);
            dueCovered(50, 50, 50, 0, 0);
            dueCovered(50, 51, 50, 1, 0);
            dueCovered(0, 51, 0, 51, 0);
            dueCovered(2, 51, 2, 49, 0);
        }

        private static void dueCovered(int fund, int sum, int fromFund, int fromMembers, int fundLeft) {
            JointLoans x = groupWithFund(2, fund);
            x.lend(0, sum, 1);
            due("week() of " + sum + " with " + fund, weekWithout(x, 0), sum);
            dueMember(x, 0, OWES_FUND, fromFund);
            dueMember(x, 0, OWES_MEMBERS, fromMembers);
            dueMember(x, 0, OWES_BANK, 0);
            dueMember(x, 1, PAID_FOR_OTHERS, fromMembers);
            dueCount(x, FUND, fundLeft);
        }

        @Says("the rest is shared by the helpers: the members that are not absent")
        static void oneHelperAndSeven() {
            JointLoans one = groupWithFund(8, 0);
            one.lend(0, 100, 1);
            weekWithout(one, 0, 1, 2, 3, 4, 5, 6);
            for (int i = 0; i < 8; i++) {
                due("owes(0, " + i + ") of one helper", one.owes(0, i), i == 7 ? 100 : 0);
            }
            JointLoans seven = groupWithFund(8, 0);
            seven.lend(7, 70, 1);
            weekWithout(seven, 7);
            for (int i = 0; i < 8; i++) {
                due("owes(7, " + i + ") of seven helpers", seven.owes(7, i), i == 7 ? 0 : 10);
            }
            JointLoans left = groupWithFund(3, 0);
            left.leave(1);
            left.lend(0, 10, 1);
            weekWithout(left, 0);
            due("owes(0, 2) without one who left", left.owes(0, 2), 10);
        }

        @Says("the rest is shared by the helpers: the members that are not absent")
        static void helperWithLoanAndDebts() {
            JointLoans x = groupWithFund(2, 0);
            x.lend(1, 100, 2);
            weekWithout(x, 1);
            x.lend(0, 30, 1);
            due("week()", weekWithout(x, 0), 80);
            due("owes(0, 1)", x.owes(0, 1), 30);
            due("owes(1, 0)", x.owes(1, 0), 50);
        }

        @Says("With h helpers each pays the rest divided by h, and the first ones of them, by ascending numbers, 1 more, "
            + "until the rest is paid")
        static void firstHelpersPayOneMore() {
            dueShares(12, 0, 0, 0);
            dueShares(13, 1, 0, 0);
            dueShares(14, 1, 1, 0);
            dueShares(15, 1, 1, 1);
            dueShares(16, 2, 1, 1);
            dueShares(17, 2, 2, 1);
            dueShares(18, 2, 2, 2);
            dueShares(199, 63, 62, 62);
        }

        /** What 0, 2 and 3 pay for 1 when the fund has 12. */
        private static void dueShares(int sum, int... shares) {
            JointLoans x = groupWithFund(4, 12);
            x.lend(1, sum, 1);
            due("week()", weekWithout(x, 1), sum);
            due("owes(1, 0) of " + sum, x.owes(1, 0), shares[0]);
            due("owes(1, 1) of " + sum, x.owes(1, 1), 0);
            due("owes(1, 2) of " + sum, x.owes(1, 2), shares[1]);
            due("owes(1, 3) of " + sum, x.owes(1, 3), shares[2]);
            dueMember(x, 1, OWES_BANK, 0);
        }

        @Says("the member owes each of them what that one has paid")
        static void helpersAreOwedWhatTheyPaid() {
            JointLoans x = groupWithFund(3, 0);
            x.lend(0, 11, 1);
            weekWithout(x, 0);
            for (int helper = 1; helper < 3; helper++) {
                int share = helper == 1 ? 6 : 5;
                due("owes(0, " + helper + ")", x.owes(0, helper), share);
                due("owes(" + helper + ", 0)", x.owes(helper, 0), 0);
                dueMember(x, helper, IS_OWED, share);
                dueMember(x, helper, PAID_FOR_OTHERS, share);
            }
            dueMember(x, 0, OWES_MEMBERS, 11);
            dueMember(x, 0, PAID_FOR_OTHERS, 0);
        }

        @Says("Without helpers the rest is not paid: the member owes it to the bank.")
        static void nobodyHelps() {
            dueUnpaid(20, 19, 19, 0);
            dueUnpaid(20, 20, 20, 0);
            dueUnpaid(20, 21, 20, 1);
            dueUnpaid(0, 21, 0, 21);
            JointLoans x = group(1);
            x.lend(0, 20, 1);
            due("week() of the only one", weekWithout(x, 0), 0);
            dueMember(x, 0, OWES_BANK, 20);
        }

        private static void dueUnpaid(int fund, int sum, int paid, int rest) {
            JointLoans x = groupWithFund(2, fund);
            x.lend(0, sum, 1);
            due("week() of " + sum + " with " + fund, weekWithout(x, 0, 1), paid);
            dueMember(x, 0, OWES_FUND, paid);
            dueMember(x, 0, OWES_BANK, rest);
            dueMember(x, 0, OWES_MEMBERS, 0);
            dueMember(x, 1, PAID_FOR_OTHERS, 0);
        }

        @Says("The loan is less by its part, and has a week less, in any case")
        static void loanIsLessWhetherItIsPaidOrNot() {
            int[][] away = {{}, {0}, {0, 1}};
            for (int[] those : away) {
                JointLoans x = groupWithFund(2, 0);
                x.lend(0, 101, 2);
                weekWithout(x, those);
                dueMember(x, 0, SUM, 101);
                dueMember(x, 0, LEFT, 51);
                dueMember(x, 0, WEEKS, 1);
                dueMember(x, 0, DUE, 51);
            }
        }

        @Says("without weeks it is over")
        static void lastWeekEndsTheLoan() {
            int[][] away = {{}, {0}, {0, 1}};
            for (int[] those : away) {
                JointLoans x = groupWithFund(2, 0);
                x.lend(0, 100, 2);
                x.week();
                dueMember(x, 0, WEEKS, 1);
                weekWithout(x, those);
                for (int what = SUM; what <= DUE; what++) {
                    dueMember(x, 0, what, 0);
                }
                if (those.length > 0) {
                    due("payBack(0, 50)", x.payBack(0, 50), 50);
                }
                due("lend(0, 10, 1) behind it", x.lend(0, 10, 1), 10);
            }
        }

        @Says("Each member that is not absent saves setting 1: it comes to the fund.")
        static void savingOfNothingAndOfAll() {
            for (int saving : new int[] {0, 1, 99}) {
                JointLoans x = group(3);
                x.set(SAVING, saving);
                weekWithout(x, 1);
                dueMember(x, 0, SAVED, saving);
                dueMember(x, 1, SAVED, 0);
                dueMember(x, 2, SAVED, saving);
                dueCount(x, FUND, 2 * saving);
                weekWithout(x, 0, 1, 2);
                dueCount(x, FUND, 2 * saving);
                x.week();
                dueCount(x, FUND, 5 * saving);
                dueMember(x, 1, SAVED, saving);
            }
        }

        @Says("Each member that is not absent saves setting 1: it comes to the fund.")
        static void savingComesBehindTheDues() {
            JointLoans x = group(2);
            x.set(SAVING, 99);
            x.lend(0, 10, 1);
            weekWithout(x, 0);
            dueMember(x, 0, OWES_FUND, 0);
            dueMember(x, 0, OWES_MEMBERS, 10);
            dueCount(x, FUND, 99);
        }

        @Says("If the number of the week plus 1 is a multiple of setting 2, the chair goes on")
        static void chairGoesOnAtMultiples() {
            dueChairs(1, 1, 1, 2, 0, 3, 1);
            dueChairs(2, 1, 0, 2, 1, 3, 1, 4, 0);
            dueChairs(4, 3, 0, 4, 1, 7, 1, 8, 0);
            dueChairs(20, 19, 0, 20, 1, 39, 1, 40, 0);
        }

        /** Of two members; then numbers of weeks, and the chair at each of them. */
        private static void dueChairs(int setting, int... weeksAndChairs) {
            JointLoans x = group(2);
            x.set(CHAIR_WEEKS, setting);
            for (int i = 0; i < weeksAndChairs.length; i += 2) {
                weeks(x, weeksAndChairs[i] - x.count(WEEK));
                due("the chair in week " + weeksAndChairs[i] + " at " + setting, x.count(CHAIR), weeksAndChairs[i + 1]);
            }
        }

        @Says("If the number of the week plus 1 is a multiple of setting 2, the chair goes on")
        static void multiplesOfAChangedSetting() {
            JointLoans x = group(2);
            weeks(x, 5);
            dueCount(x, CHAIR, 1);
            x.set(CHAIR_WEEKS, 7);
            x.week();
            dueCount(x, CHAIR, 1);
            x.week();
            dueCount(x, CHAIR, 0);
            x.set(CHAIR_WEEKS, 8);
            x.week();
            dueCount(x, CHAIR, 1);
        }

        @Says("to the next member, by ascending numbers, behind the greatest one the lowest")
        static void chairGoesRound() {
            JointLoans x = group(8);
            x.set(CHAIR_WEEKS, 1);
            for (int i = 1; i <= 9; i++) {
                x.week();
                dueCount(x, CHAIR, i % 8);
            }
        }

        @Says("to the next member, by ascending numbers, behind the greatest one the lowest")
        static void chairGoesOverNumbersWithoutMembers() {
            JointLoans x = groupWithFund(8, 0);
            x.set(CHAIR_WEEKS, 1);
            for (int left : new int[] {0, 2, 3, 7}) {
                x.leave(left);
            }
            dueCount(x, CHAIR, 1);
            for (int chair : new int[] {4, 5, 6, 1, 4}) {
                x.week();
                dueCount(x, CHAIR, chair);
            }
        }

        @Says("that has no debts")
        static void chairGoesOverADebtOfOne() {
            for (int kind = OWES_BANK; kind <= OWES_MEMBERS; kind++) {
                JointLoans x = withDebtOfOne(kind);
                x.set(CHAIR_WEEKS, 1);
                for (int chair : new int[] {1, 2, 1}) {
                    x.week();
                    due("the chair with a debt of kind " + kind, x.count(CHAIR), chair);
                }
                x.payBack(0, 1);
                for (int chair : new int[] {2, 0}) {
                    x.week();
                    due("the chair without it", x.count(CHAIR), chair);
                }
            }
        }

        @Says("that has no debts")
        static void debtsOfThisWeekCountForTheChair() {
            JointLoans x = groupWithFund(3, 0);
            x.set(CHAIR_WEEKS, 1);
            x.lend(1, 10, 1);
            weekWithout(x, 1);
            dueCount(x, CHAIR, 2);
            JointLoans y = groupWithFund(3, 0);
            y.set(CHAIR_WEEKS, 1);
            y.lend(1, 10, 1);
            y.week();
            dueCount(y, CHAIR, 1);
        }

        @Says("if there is none but the chair itself, it stays, if it has none")
        static void onlyTheChairHasNoDebts() {
            JointLoans alone = group(1);
            alone.set(CHAIR_WEEKS, 1);
            alone.week();
            dueCount(alone, CHAIR, 0);
            JointLoans x = groupWithFund(3, 0);
            x.set(CHAIR_WEEKS, 1);
            x.lend(1, 10, 1);
            x.lend(2, 10, 1);
            weekWithout(x, 1, 2);
            dueCount(x, CHAIR, 0);
            x.payBack(2, 10);
            x.week();
            dueCount(x, CHAIR, 2);
            x.week();
            dueCount(x, CHAIR, 0);
        }

        @Says("and otherwise there is no chair")
        static void allHaveDebts() {
            JointLoans alone = group(1);
            alone.set(CHAIR_WEEKS, 1);
            alone.lend(0, 10, 1);
            weekWithout(alone, 0);
            dueCount(alone, CHAIR, NONE);
            dueCount(withoutChair(), CHAIR, NONE);
        }

        @Says("(Also if there was none: then the lowest one is asked first.)")
        static void withoutChairTheLowestIsAskedFirst() {
            dueChairAfterPaying(NONE);
            dueChairAfterPaying(0, 0);
            dueChairAfterPaying(0, 2, 1, 0);
            dueChairAfterPaying(1, 2, 1);
            dueChairAfterPaying(2, 2);
            JointLoans x = new JointLoans();
            weeks(x, 4);
            dueCount(x, CHAIR, NONE);
        }

        private static void dueChairAfterPaying(int chair, int... members) {
            JointLoans x = withoutChair();
            for (int member : members) {
                x.payBack(member, 10);
            }
            dueCount(x, CHAIR, NONE);
            x.set(CHAIR_WEEKS, 20);
            x.week();
            dueCount(x, CHAIR, NONE);
            x.set(CHAIR_WEEKS, 1);
            x.week();
            dueCount(x, CHAIR, chair);
        }

        @Says("The number of the week becomes 1 more; nobody is absent any more.")
        static void nextWeekBegins() {
            JointLoans x = group(8);
            due("week()", weekWithout(x, 0, 1, 2, 3, 4, 5, 6, 7), 0);
            dueCount(x, WEEK, 1);
            dueCount(x, ABSENT_ONES, 0);
            for (int i = 0; i < 8; i++) {
                dueMember(x, i, ABSENT, 0);
            }
        }
    }

    @In("### Paying back")
    private static final class PayingBack {
        @Says("Who pays back pays the debt to the bank first, then that to the fund, then those to members, by ascending "
            + "numbers, each as far as the money goes.")
        static void asFarAsTheMoneyGoes() {
            duePaid(1, 1, 50, 15, 18, 18);
            duePaid(50, 50, 1, 15, 18, 18);
            duePaid(51, 51, 0, 15, 18, 18);
            duePaid(52, 52, 0, 14, 18, 18);
            duePaid(65, 65, 0, 1, 18, 18);
            duePaid(66, 66, 0, 0, 18, 18);
            duePaid(67, 67, 0, 0, 17, 18);
            duePaid(83, 83, 0, 0, 1, 18);
            duePaid(84, 84, 0, 0, 0, 18);
            duePaid(85, 85, 0, 0, 0, 17);
            duePaid(101, 101, 0, 0, 0, 1);
            duePaid(102, 102, 0, 0, 0, 0);
            duePaid(103, 102, 0, 0, 0, 0);
            duePaid(2000, 102, 0, 0, 0, 0);
        }

        private static void duePaid(int money, int paid, int toBank, int toFund, int toMember1, int toMember2) {
            JointLoans x = withAllDebts();
            due("payBack(0, " + money + ")", x.payBack(0, money), paid);
            dueMember(x, 0, OWES_BANK, toBank);
            dueMember(x, 0, OWES_FUND, toFund);
            due("owes(0, 1)", x.owes(0, 1), toMember1);
            due("owes(0, 2)", x.owes(0, 2), toMember2);
            dueCount(x, FUND, 10 + 15 - toFund);
            dueCount(x, PAID, 102 + 51 - toBank);
        }

        @Says("Who joins a group without members is the chair.")
        static void firstOneIsTheChair() {
            JointLoans x = new JointLoans();
            dueCount(x, CHAIR, NONE);
            x.join();
            dueCount(x, CHAIR, 0);
            x.join();
            dueCount(x, CHAIR, 0);
            leaveAll(x);
            dueCount(x, CHAIR, NONE);
            x.join();
            dueCount(x, CHAIR, 2);
            JointLoans last = group(7);
            leaveAll(last);
            last.join();
            dueCount(last, CHAIR, 7);
            due("the chair of a group that had none", after(withoutChair(), JointLoans::join).count(CHAIR), NONE);
        }

        @Says("If the chair leaves, the chair goes on as told, among those who stay.")
        static void chairLeaves() {
            JointLoans x = groupWithFund(4, 0);
            x.leave(0);
            dueCount(x, CHAIR, 1);
            x.leave(2);
            due("the chair when another one leaves", x.count(CHAIR), 1);
            x.leave(1);
            dueCount(x, CHAIR, 3);
            x.leave(3);
            due("the chair when nobody stays", x.count(CHAIR), NONE);
        }

        @Says("If the chair leaves, the chair goes on as told, among those who stay.")
        static void chairBehindTheGreatestLeaves() {
            JointLoans x = groupWithFund(8, 0);
            x.set(CHAIR_WEEKS, 1);
            weeks(x, 7);
            dueCount(x, CHAIR, 7);
            x.leave(0);
            x.leave(7);
            dueCount(x, CHAIR, 1);
            JointLoans full = groupWithFund(8, 0);
            full.set(CHAIR_WEEKS, 1);
            weeks(full, 7);
            full.leave(7);
            dueCount(full, CHAIR, 0);
        }

        @Says("If the chair leaves, the chair goes on as told, among those who stay.")
        static void chairLeavesThoseWithDebts() {
            JointLoans x = groupWithFund(3, 30);
            x.help(1, 1);
            x.leave(2);
            due("leave(0)", x.leave(0), 10);
            due("the chair when all who stay have debts", x.count(CHAIR), NONE);
            JointLoans y = groupWithFund(3, 30);
            y.help(1, 1);
            y.leave(0);
            due("the chair goes over one with debts", y.count(CHAIR), 2);
        }

        @Says("The chair can grant a member help from the fund: at most setting 3 hundredths of it")
        static void mostHelp() {
            dueMostHelp(15, 50, 7);
            dueMostHelp(15, 100, 15);
            dueMostHelp(15, 99, 14);
            dueMostHelp(15, 0, 0);
            dueMostHelp(0, 100, 0);
            dueMostHelp(99, 1, 0);
            dueMostHelp(102, 1, 1);
            dueMostHelp(198, 1, 1);
            dueMostHelp(201, 1, 2);
        }

        private static void dueMostHelp(int fund, int setting, int most) {
            Recipe recipe = () -> after(groupWithFund(3, fund), x -> x.set(GRANT, setting));
            refused(recipe, STATE, "help(1, " + (most + 1) + ") of " + fund + " at " + setting, x -> x.help(1, most + 1));
            if (most > 0) {
                JointLoans x = recipe.make();
                due("help(1, " + most + ") of " + fund + " at " + setting, x.help(1, most), fund - most);
                dueMember(x, 1, OWES_FUND, most);
            }
        }

        @Says("to a member who is not the chair")
        static void chairGetsNoHelp() {
            refused(() -> groupWithFund(2, 20), STATE, "help(0, 1) to the chair", x -> x.help(0, 1));
            due("help(1, 1) to another one", groupWithFund(2, 20).help(1, 1), 19);
            Recipe next = () -> after(after(groupWithFund(2, 20), x -> x.set(CHAIR_WEEKS, 1)), JointLoans::week);
            refused(next, STATE, "help(1, 1) to the next chair", x -> x.help(1, 1));
            due("help(0, 1) to the one before", next.make().help(0, 1), 19);
        }

        @Says("and does not owe the fund anything; the member owes it to the fund then")
        static void whoOwesTheFundGetsNoHelp() {
            JointLoans x = groupWithFund(3, 30);
            due("help(1, 1)", x.help(1, 1), 29);
            dueMember(x, 1, OWES_FUND, 1);
            refused(() -> after(groupWithFund(3, 30), y -> y.help(1, 1)), STATE, "help(1, 1) with a debt of 1",
                y -> y.help(1, 1));
            due("help(2, 1) to another one", x.help(2, 1), 28);
            x.payBack(1, 1);
            due("help(1, 2) without it", x.help(1, 2), 27);
            for (int kind : new int[] {OWES_BANK, OWES_MEMBERS}) {
                JointLoans other = withDebtOfOne(kind);
                other.set(CHAIR_WEEKS, 1);
                other.set(SAVING, 5);
                other.week();
                due("help(0, 7) with a debt of kind " + kind, other.help(0, 7), 8);
            }
        }
    }

    @In("### Cycles")
    private static final class Cycles {
        @Says("A new cycle can begin if there is no loan")
        static void lastWeekOfALoan() {
            due("cycle() without members", new JointLoans().cycle(), 1);
            due("cycle() without loans", group(8).cycle(), 1);
            Recipe recipe = () -> after(group(8), x -> x.lend(7, 10, 1));
            refused(recipe, STATE, "cycle() with a loan", JointLoans::cycle);
            due("cycle() behind it", after(recipe.make(), JointLoans::week).cycle(), 1);
        }

        @Says("and nobody owes the bank")
        static void debtOfOneToTheBank() {
            refused(() -> withDebtOfOne(OWES_BANK), STATE, "cycle() with a debt of 1 to the bank", JointLoans::cycle);
            due("cycle() without it", after(withDebtOfOne(OWES_BANK), x -> x.payBack(0, 1)).cycle(), 1);
            due("cycle() with a debt to the fund", withDebtOfOne(OWES_FUND).cycle(), 1);
            due("cycle() with a debt to a member", withDebtOfOne(OWES_MEMBERS).cycle(), 1);
        }

        @Says("The limit of each member who missed no due in the cycle that ends becomes half of it more, at most 2000")
        static void mostLimit() {
            dueNextLimit("", 200, 0, 300);
            dueNextLimit("ddd", 25, 0, 37);
            dueNextLimit("ddduuuuuduuuduuuuududduuuduuuudduududuuu", 1332, 0, 1998);
            dueNextLimit("dduudduuuduuuuuduuuuu", 1336, 0, 2000);
            dueNextLimit("uuuuu", 1518, 0, 2000);
            dueNextLimit("uuuuuu", 2000, 0, 2000);
        }

        @Says("of each one who missed 3 or more it becomes half of it, at least 20")
        static void leastLimit() {
            dueNextLimit("uuuuuu", 2000, 3, 1000);
            dueNextLimit("dduuddu", 42, 3, 21);
            dueNextLimit("ddduuud", 41, 3, 20);
            dueNextLimit("ddduudu", 40, 3, 20);
            dueNextLimit("dduudduuudududu", 39, 3, 20);
            dueNextLimit("dddd", 20, 3, 20);
        }

        @Says("of each one who missed 3 or more it becomes half of it, at least 20")
        static void oneToFourMissedOnes() {
            dueNextLimit("", 200, 1, 200);
            dueNextLimit("", 200, 2, 200);
            dueNextLimit("", 200, 3, 100);
            dueNextLimit("", 200, 4, 100);
            dueNextLimit("", 200, 52, 100);
        }

        private static void dueNextLimit(String path, int limit, int missed, int next) {
            JointLoans x = withLimit(path);
            dueMember(x, 0, LIMIT, limit);
            if (missed > 0) {
                missDues(x, missed);
            }
            dueMember(x, 0, MISSED_IN_CYCLE, missed);
            due("ifCycle(0)", x.ifCycle(0), next);
            x.cycle();
            dueMember(x, 0, LIMIT, next);
        }

        @Says("The limit of each member who missed no due in the cycle that ends")
        static void earlierCyclesDoNotMatter() {
            JointLoans x = group(1);
            missDues(x, 2);
            x.cycle();
            dueMember(x, 0, MISSED_IN_CYCLE, 0);
            dueMember(x, 0, MISSED, 2);
            missDues(x, 1);
            x.cycle();
            due("the limit with 2 and 1 missed", x.member(0, LIMIT), 200);
            x.cycle();
            due("the limit with none in the last cycle", x.member(0, LIMIT), 300);
            dueMember(x, 0, MISSED, 3);
        }
    }

    @In("### Books")
    private static final class Books {
        @Says("The bank has lent the sums of all loans so far; it was owed the interest of all dues so far; it was paid "
            + "what came to it.")
        static void booksFromNothing() {
            JointLoans x = groupWithFund(2, 20);
            dueBooks(x, 0, 0, 0);
            x.lend(0, 200, 4);
            dueBooks(x, 200, 0, 0);
            x.week();
            dueBooks(x, 200, 1, 51);
            weekWithout(x, 0);
            dueBooks(x, 200, 2, 102);
            weekWithout(x, 0, 1);
            dueBooks(x, 200, 3, 102);
            x.payBack(0, 50);
            dueBooks(x, 200, 3, 152);
            x.payBack(0, 2);
            dueBooks(x, 200, 3, 153);
            x.lend(1, 100, 1);
            dueBooks(x, 300, 3, 153);
            x.week();
            dueBooks(x, 300, 4, 304);
            x.payBack(0, 2000);
            dueBooks(x, 300, 4, 304);
        }

        private static void dueBooks(JointLoans x, int lent, int interest, int paid) {
            dueCount(x, 9, lent);
            dueCount(x, 10, interest);
            dueCount(x, PAID, paid);
            dueCount(x, BALANCE, lent + interest - paid);
        }

        @Says("it is what is left of all loans, and what members owe the bank, together")
        static void balanceFromNothingToNothing() {
            JointLoans x = group(3);
            dueCount(x, BALANCE, 0);
            x.lend(0, 200, 4);
            dueCount(x, BALANCE, 200);
            x.lend(1, 199, 5);
            dueBalance(x);
            int[][] away = {{}, {0}, {0, 1, 2}, {0, 1}, {0, 1, 2}};
            for (int[] those : away) {
                weekWithout(x, those);
                dueBalance(x);
            }
            dueCount(x, 5, 0);
            for (int i = 0; i < 2; i++) {
                x.payBack(i, 1);
                dueBalance(x);
                x.payBack(i, 2000);
                dueBalance(x);
            }
            dueCount(x, BALANCE, 0);
        }

        private static void dueBalance(JointLoans x) {
            dueCount(x, BALANCE, x.count(9) + x.count(10) - x.count(PAID));
            dueCount(x, BALANCE, x.count(5) + x.count(6));
        }
    }

    @In("### Settings")
    private static final class Settings {
        @Says("0: the interest, 0 to 50 thousandths, at first 5")
        static void interest() {
            dueSetting(INTEREST, 0, 50, 5);
        }

        @Says("1: what is saved, 0 to 99, at first 5")
        static void saving() {
            dueSetting(SAVING, 0, 99, 5);
        }

        @Says("2: the weeks of a chair, 1 to 20, at first 4")
        static void weeksOfAChair() {
            dueSetting(CHAIR_WEEKS, 1, 20, 4);
        }

        @Says("3: what can be granted, 0 to 100 hundredths, at first 50")
        static void grant() {
            dueSetting(GRANT, 0, 100, 50);
        }

        private static void dueSetting(int setting, int least, int most, int first) {
            JointLoans x = new JointLoans();
            due("setting(" + setting + ")", x.setting(setting), first);
            due("set(" + setting + ", " + least + ")", x.set(setting, least), first);
            due("setting(" + setting + ")", x.setting(setting), least);
            due("set(" + setting + ", " + most + ")", x.set(setting, most), least);
            due("setting(" + setting + ")", x.setting(setting), most);
            for (int value : new int[] {MIN, least - 1, most + 1, MAX}) {
                refused(() -> group(2), ARGUMENT, "set(" + setting + ", " + value + ")", y -> y.set(setting, value));
            }
        }
    }

    @In("### Input text")
    private static final class InputText {
        @Says("The buffer has at most 60 characters.")
        static void sixtyCharacters() {
            JointLoans x = new JointLoans();
            for (int i = 1; i <= 60; i++) {
                due("append('~')", x.append('~'), i);
            }
            refused(() -> typed(new JointLoans(), ELEVEN_WEEKS + "cycle"), STATE, "append() to 60", y -> y.append(';'));
            due("append() to 59", typed(new JointLoans(), ELEVEN_WEEKS + "week").append(';'), 60);
        }

        @Says("Orders as a text are one or more orders with ; between them")
        static void ordersAndMarksBetweenThem() {
            dueBeginning("");
            dueOrders("week", 1);
            dueOrders("week;week", 2);
            dueOrders("cycle;week;cycle", 3);
            dueOrders(ELEVEN_WEEKS + "cycle", 12);
            dueBeginning("week;");
            dueBeginning(ELEVEN_WEEKS);
            dueMistake("?;");
            dueMistake("?;week");
            dueMistake("week;?;");
            dueMistake("week?,week");
            dueMistake("week?week");
        }

        @Says("loan, the digit of a member, 0 to 7, *, a sum, 10 to 2000, /, and weeks, 1 to 52")
        static void loanAndItsMember() {
            dueOrders("loan0*10/1", 0);
            dueOrders("loan7*10/1", 0);
            dueMistake("loan?8*10/1");
            dueMistake("loan?9*10/1");
            dueMistake("loan?/*10/1");
            dueMistake("loan?:*10/1");
            dueMistake("loan?*10/1");
            dueMistake("loan0?0*10/1");
            dueMistake("loan0?/10/1");
        }

        @Says("loan, the digit of a member, 0 to 7, *, a sum, 10 to 2000, /, and weeks, 1 to 52")
        static void sumOfALoan() {
            dueOrders("loan0*10/1", 0);
            dueOrders("loan0*99/1", 0);
            dueOrders("loan0*100/1", 0);
            dueOrders("loan0*999/1", 0);
            dueOrders("loan0*1000/1", 0);
            dueOrders("loan0*1999/1", 0);
            dueOrders("loan0*2000/1", 0);
            dueBeginning("loan0*9");
            dueBeginning("loan0*1");
            dueMistake("loan0*9?/1");
            dueMistake("loan0*1?/1");
            dueMistake("loan0*?0");
            dueMistake("loan0*200?1");
            dueMistake("loan0*201?0");
            dueMistake("loan0*300?0");
            dueMistake("loan0*1000?0");
            dueMistake("loan0*2000?0");
            dueMistake("loan0*?/1");
            dueMistake("loan0*1?:/1");
            dueMistake("loan0*?:/1");
            dueMistake("loan0*10?*1");
        }

        @Says("loan, the digit of a member, 0 to 7, *, a sum, 10 to 2000, /, and weeks, 1 to 52")
        static void weeksOfALoan() {
            dueOrders("loan0*10/1", 0);
            dueOrders("loan0*10/9", 0);
            dueOrders("loan0*10/10", 0);
            dueOrders("loan0*10/49", 0);
            dueOrders("loan0*10/50", 0);
            dueOrders("loan0*10/52", 0);
            dueBeginning("loan0*10/");
            dueMistake("loan0*10/?0");
            dueMistake("loan0*10/5?3");
            dueMistake("loan0*10/6?0");
            dueMistake("loan0*10/9?9");
            dueMistake("loan0*10/10?0");
            dueMistake("loan0*10/52?0");
            dueMistake("loan0*10/?;");
            dueMistake("loan0*10/?:");
            dueMistake("loan0*10/1?:");
            dueMistake("loan0*10/?/");
        }

        @Says("away and a member (absent)")
        static void awayAndItsMember() {
            dueOrders("away0", 0);
            dueOrders("away7", 0);
            dueBeginning("away");
            dueMistake("away?8");
            dueMistake("away?/");
            dueMistake("away?;");
            dueMistake("away0?0");
            dueMistake("away0?*1");
        }

        @Says("pay, a member, *, and money, 1 to 2000")
        static void moneyToPay() {
            dueMoney("pay");
        }

        @Says("help, a member, *, and money, 1 to 2000")
        static void moneyToHelp() {
            dueMoney("help");
        }

        private static void dueMoney(String word) {
            for (String taken : new String[] {"0*1", "7*1", "0*9", "0*10", "0*999", "0*1000", "0*1999", "0*2000"}) {
                dueOrders(word + taken, 0);
            }
            dueBeginning(word);
            dueBeginning(word + "0");
            dueBeginning(word + "0*");
            for (String mistake : new String[] {"?8*1", "?/*1", "?*1", "0?0*1", "0?/1", "0*?0", "0*?;", "0*200?1",
                "0*201?0", "0*300?0", "0*1000?0", "0*2000?0", "0*1?/1", "0*1?:", "0*?:"}) {
                dueMistake(word + mistake);
            }
        }

        @Says("week; or cycle")
        static void wordsToTheirLastLetters() {
            dueOrders("week", 1);
            dueOrders("cycle", 1);
            for (String begun : new String[] {"w", "we", "wee", "c", "cy", "cyc", "cycl", "l", "lo", "loa", "loan", "a",
                "aw", "awa", "p", "pa", "h", "he", "hel"}) {
                dueBeginning(begun);
            }
            for (String mistake : new String[] {"w?a", "we?a", "wee?l", "week?s", "week?0", "c?i", "cy?k", "cyc?k",
                "cycl?a", "cycle?s", "cycle?1", "?Week", "?x", "?0", "?~", "l?a", "lo?o", "loa?d", "a?v", "aw?o",
                "awa?i", "p?o", "pa?i", "h?a", "he?a", "hel?l"}) {
                dueMistake(mistake);
            }
        }

        @Says("The buffer is read from left to right")
        static void firstOfTwoMistakes() {
            dueMistake("?xloan9");
            dueMistake("loan?9*5/99");
            dueMistake("loan1*?0/0");
            dueMistake("week;away?9;;");
        }

        @Says("Numbers are without leading zeros.")
        static void leadingZeros() {
            dueMistake("loan0*?010/1");
            dueMistake("loan0*?0010/1");
            dueMistake("loan0*10/?01");
            dueMistake("loan0*10/?00");
            dueMistake("pay0*?01");
            dueMistake("pay0*?0");
            dueMistake("help0*?02000");
            dueOrders("loan0*20/20", 0);
            dueOrders("pay0*100", 0);
            dueOrders("loan0*1001/1", 0);
        }

        @Says("a character is a syntax error if no orders as a text, of any length, begin with the characters before it "
            + "and this character")
        static void textsThatOnlyLongerOnesBeginWith() {
            for (String end : new String[] {"loan0", "loan7", "pay0*", "help7", "away0", "week;", "cycle"}) {
                JointLoans x = typed(new JointLoans(), ELEVEN_WEEKS + end);
                due("firstError() of 60 characters with " + end, x.firstError(), 60);
            }
            due("firstError() of a last mistake",
                typed(new JointLoans(), ELEVEN_WEEKS + "loan8").firstError(), 59);
            due("firstError() of a first mistake", typed(new JointLoans(), "l0" + ELEVEN_WEEKS).firstError(), 1);
        }

        /** Complete orders, of which so many are carried out in a group without members. */
        private static void dueOrders(String text, int carriedOut) {
            JointLoans x = typed(new JointLoans(), text);
            due("firstError() of " + text, x.firstError(), text.length());
            due("run() of " + text, x.run(), carriedOut);
        }

        /** Orders begin with the text, but it is none. */
        private static void dueBeginning(String text) {
            due("firstError() of " + text, typed(new JointLoans(), text).firstError(), text.length());
            refused(() -> typed(group(2), text), ARGUMENT, "run() of " + text, JointLoans::run);
        }

        /** The character behind the sign '?' is the first syntax error. */
        private static void dueMistake(String marked) {
            int place = marked.indexOf('?');
            String text = marked.substring(0, place) + marked.substring(place + 1);
            due("firstError() of " + text, typed(new JointLoans(), text).firstError(), place);
            refused(() -> typed(group(2), text), ARGUMENT, "run() of " + text, JointLoans::run);
        }
    }

    /** Member 0 owes the fund 6 and members 36, and there is no loan. */
    private static JointLoans beforeACycle() {
        JointLoans x = withAllDebts();
        x.week();
        x.payBack(0, 60);
        return withFourStates(x);
    }

    /** A call that is undoable, with a recipe for an object that takes it. */
    private record Undoable(String name, Recipe recipe, Call call) {
    }

    private static List<Undoable> undoableCalls() {
        return List.of(
            new Undoable("join()", () -> full(), x -> x.join()),
            new Undoable("leave(3)", () -> after(full(), x -> x.join()), x -> x.leave(3)),
            new Undoable("lend(2, 200, 7)", () -> full(), x -> x.lend(2, 200, 7)),
            new Undoable("absent(1)", () -> full(), x -> x.absent(1)),
            new Undoable("absent(2)", () -> full(), x -> x.absent(2)),
            new Undoable("week()", () -> full(), x -> x.week()),
            new Undoable("week() of missed dues", () -> after(full(), x -> x.absent(0)), x -> x.week()),
            new Undoable("payBack(0, 80)", () -> full(), x -> x.payBack(0, 80)),
            new Undoable("help(1, 9)", () -> full(), x -> x.help(1, 9)),
            new Undoable("cycle()", () -> beforeACycle(), x -> x.cycle()),
            new Undoable("set(2, 20)", () -> full(), x -> x.set(2, 20)),
            new Undoable("run() of three", () -> fullWith("pay0*80;week;away1"), x -> x.run()));
    }

    private static List<Undoable> undoableCallsThatChangeNothing() {
        return List.of(
            new Undoable("set(3, 99) again", () -> full(), x -> x.set(3, 99)),
            new Undoable("run() of away for an absent one", () -> fullWith("away2"), x -> x.run()),
            new Undoable("run() of none", () -> fullWith("away7;week"), x -> x.run()));
    }

    @In("### Undo")
    private static final class Undo {
        @Says("Each method that is marked undoable and does not throw an exception saves the state from before it")
        static void oneStateForEachCall() {
            for (Undoable each : undoableCalls()) {
                JointLoans x = each.recipe.make();
                int states = x.count(STATES);
                List<Long> before = looksAtState(x);
                each.call.on(x);
                due("saved states behind " + each.name, x.count(STATES), states + 1);
                due("1 if " + each.name + " changed something", looksAtState(x).equals(before) ? 0 : 1, 1);
            }
        }

        @Says("(also if it changes nothing)")
        static void oneStateForNothing() {
            for (Undoable each : undoableCallsThatChangeNothing()) {
                JointLoans x = each.recipe.make();
                int states = x.count(STATES);
                List<Long> before = looksAtState(x);
                each.call.on(x);
                due("saved states behind " + each.name, x.count(STATES), states + 1);
                due("all behind " + each.name, looksAtState(x), before);
            }
        }

        @Says("all, also what is counted so far, but the buffer and the saved states")
        static void undoRestoresAll() {
            for (Undoable each : undoableCalls()) {
                // the buffer is left out, since run() clears it for good
                unchanged(() -> after(each.recipe.make(), JointLoans::clearBuffer), "undo() of " + each.name, x -> {
                    if (each.name.startsWith("run")) {
                        typed(x, "pay0*80;week;away1");
                    }
                    each.call.on(x);
                    x.undo();
                });
            }
        }

        @Says("all, also what is counted so far, but the buffer and the saved states")
        static void undoLeavesTheBuffer() {
            JointLoans x = group(2);
            typed(x, "week");
            due("run()", x.run(), 1);
            x.undo();
            due("clearBuffer() behind undo() of run()", x.clearBuffer(), 0);
            typed(x, "we");
            x.week();
            typed(x, "ek");
            x.undo();
            due("firstError() behind undo() of week()", x.firstError(), 4);
            due("clearBuffer() behind undo() of week()", x.clearBuffer(), 4);
        }

        @Says("At most 6 states are saved; the oldest one is dropped first.")
        static void sixStates() {
            for (int calls : new int[] {1, 5, 6, 7, 12, 13, 30}) {
                JointLoans x = new JointLoans();
                for (int i = 1; i <= calls; i++) {
                    x.set(SAVING, 10 + i);
                    due("saved states after " + i, x.count(STATES), Math.min(i, 6));
                }
                for (int left = Math.min(calls, 6) - 1; left >= 0; left--) {
                    due("undo()", x.undo(), left);
                    int back = Math.min(calls, 6) - left;
                    int want = back == calls ? 5 : 10 + calls - back;
                    due("setting(1) after " + calls + ", " + back + " back", x.setting(SAVING), want);
                }
                due("saved states at last", x.count(STATES), 0);
            }
        }

        @Says("At most 6 states are saved; the oldest one is dropped first.")
        static void statesBehindAnUndo() {
            JointLoans x = new JointLoans();
            for (int value : new int[] {1, 2, 3, 4, 5, 6, 7, 8}) {
                x.set(SAVING, value);
            }
            dueBack(x, 7, 6, 5);
            x.set(SAVING, 20);
            x.set(SAVING, 21);
            dueCount(x, STATES, 5);
            dueBack(x, 20, 5, 4, 3, 2);
            dueCount(x, STATES, 0);
            for (int value = 30; value < 40; value++) {
                x.set(SAVING, value);
            }
            dueBack(x, 38, 37, 36, 35, 34, 33);
            dueCount(x, STATES, 0);
        }

        private static void dueBack(JointLoans x, int... values) {
            for (int value : values) {
                x.undo();
                due("setting(1) behind undo()", x.setting(SAVING), value);
            }
        }
    }

    @In("### Exceptions")
    private static final class Exceptions {
        @Says("A call that throws an exception changes nothing.")
        static void refusedCallsChangeNothing() {
            refused(() -> after(full(), Boundaries::joinAll), STATE, "join()", x -> x.join());
            refused(() -> full(), INDEX, "leave(3)", x -> x.leave(3));
            refused(() -> full(), STATE, "leave(0)", x -> x.leave(0));
            refused(() -> full(), INDEX, "lend(3, 100, 4)", x -> x.lend(3, 100, 4));
            refused(() -> full(), ARGUMENT, "lend(2, 9, 4)", x -> x.lend(2, 9, 4));
            refused(() -> full(), STATE, "lend(2, 201, 4)", x -> x.lend(2, 201, 4));
            refused(() -> full(), INDEX, "absent(3)", x -> x.absent(3));
            refused(() -> full(), INDEX, "payBack(3, 1)", x -> x.payBack(3, 1));
            refused(() -> full(), ARGUMENT, "payBack(0, 2001)", x -> x.payBack(0, 2001));
            refused(() -> full(), STATE, "payBack(1, 1)", x -> x.payBack(1, 1));
            refused(() -> full(), INDEX, "help(3, 1)", x -> x.help(3, 1));
            refused(() -> full(), ARGUMENT, "help(1, 0)", x -> x.help(1, 0));
            refused(() -> full(), STATE, "help(1, 10)", x -> x.help(1, 10));
            refused(() -> full(), STATE, "cycle()", x -> x.cycle());
            refused(() -> full(), INDEX, "set(4, 0)", x -> x.set(4, 0));
            refused(() -> full(), ARGUMENT, "set(0, 51)", x -> x.set(0, 51));
            refused(() -> full(), ARGUMENT, "append(32)", x -> x.append(32));
            refused(() -> fullWith(ELEVEN_WEEKS + "cycle"), STATE, "append(59)", x -> x.append(59));
            refused(() -> full(), ARGUMENT, "run()", x -> x.run());
            refused(() -> new JointLoans(), STATE, "undo()", x -> x.undo());
            refused(() -> full(), INDEX, "member(3, 0)", x -> x.member(3, 0));
            refused(() -> full(), ARGUMENT, "member(0, 14)", x -> x.member(0, 14));
            refused(() -> full(), INDEX, "owes(0, 3)", x -> x.owes(0, 3));
            refused(() -> full(), ARGUMENT, "count(16)", x -> x.count(16));
            refused(() -> full(), INDEX, "setting(4)", x -> x.setting(4));
            refused(() -> full(), ARGUMENT, "ifAbsent(256, 0)", x -> x.ifAbsent(256, 0));
            refused(() -> full(), INDEX, "fundLasts(3)", x -> x.fundLasts(3));
            refused(() -> full(), INDEX, "ifCycle(3)", x -> x.ifCycle(3));
        }

        @Says("If several exceptions apply, the one that is named first in the throws clause is thrown.")
        static void firstNamedException() {
            refused(() -> full(), INDEX, "lend(3, 9, 4)", x -> x.lend(3, 9, 4));
            refused(() -> full(), INDEX, "lend(3, 100, 53)", x -> x.lend(3, 100, 53));
            refused(() -> full(), INDEX, "lend(3, 201, 4)", x -> x.lend(3, 201, 4));
            refused(() -> full(), ARGUMENT, "lend(1, 9, 4) with a loan", x -> x.lend(1, 9, 4));
            refused(() -> full(), ARGUMENT, "lend(1, 100, 0) with a loan", x -> x.lend(1, 100, 0));
            refused(() -> full(), ARGUMENT, "lend(2, 2001, 4) above the limit", x -> x.lend(2, 2001, 4));
            refused(() -> full(), ARGUMENT, "lend(2, 201, 53) above the limit", x -> x.lend(2, 201, 53));
            refused(() -> full(), INDEX, "payBack(3, 0)", x -> x.payBack(3, 0));
            refused(() -> full(), ARGUMENT, "payBack(1, 0) without debts", x -> x.payBack(1, 0));
            refused(() -> full(), ARGUMENT, "payBack(1, 2001) without debts", x -> x.payBack(1, 2001));
            refused(() -> full(), INDEX, "help(3, 0)", x -> x.help(3, 0));
            refused(() -> full(), INDEX, "help(3, 10)", x -> x.help(3, 10));
            refused(() -> full(), ARGUMENT, "help(0, 0) to the chair", x -> x.help(0, 0));
            refused(() -> full(), ARGUMENT, "help(1, 2001) above the grant", x -> x.help(1, 2001));
            refused(() -> withoutChair(), ARGUMENT, "help(0, 2001) without a chair", x -> x.help(0, 2001));
            refused(() -> full(), INDEX, "set(4, -1)", x -> x.set(4, -1));
            refused(() -> full(), INDEX, "set(-1, 101)", x -> x.set(-1, 101));
            refused(() -> fullWith(ELEVEN_WEEKS + "cycle"), ARGUMENT, "append(32) to 60", x -> x.append(32));
            refused(() -> fullWith(ELEVEN_WEEKS + "cycle"), ARGUMENT, "append(127) to 60", x -> x.append(127));
            refused(() -> full(), INDEX, "member(3, 14)", x -> x.member(3, 14));
            refused(() -> full(), INDEX, "member(-1, -1)", x -> x.member(-1, -1));
        }

        @Says("NONE = -1: There is nothing to return.")
        static void none() {
            due("NONE", JointLoans.NONE, -1);
        }

        @Says("---- looks; nothing is changed.")
        static void looksChangeNothing() {
            unchanged(() -> full(), "member(0, 13)", x -> x.member(0, 13));
            unchanged(() -> full(), "owes(0, 2)", x -> x.owes(0, 2));
            unchanged(() -> full(), "count(15)", x -> x.count(15));
            unchanged(() -> full(), "setting(3)", x -> x.setting(3));
        }

        @Says("---- what would be; nothing is changed, and the limit of weeks does not matter.")
        static void whatWouldBeChangesNothing() {
            unchanged(() -> full(), "ifAbsent(0, 0)", x -> x.ifAbsent(0, 0));
            unchanged(() -> full(), "ifAbsent(255, 4)", x -> x.ifAbsent(255, 4));
            unchanged(() -> full(), "fundLasts(0)", x -> x.fundLasts(0));
            unchanged(() -> full(), "weakest()", x -> x.weakest());
            unchanged(() -> full(), "weeksToGo()", x -> x.weeksToGo());
            unchanged(() -> full(), "ifCycle(0)", x -> x.ifCycle(0));
            unchanged(() -> full(), "paidShare()", x -> x.paidShare());
            unchanged(() -> full(), "digest()", x -> x.digest());
        }

        /** 999 weeks are more than 512 calls can end; what stands here is kept all the same. */
        @Says("and the limit of weeks does not matter")
        static void whatWouldBeBehindTheLastWeek() {
            JointLoans x = group(2);
            x.set(SAVING, 0);
            weeks(x, 998);
            x.lend(0, 200, 4);
            x.lend(1, 100, 3);
            x.week();
            dueCount(x, WEEK, 999);
            due("ifAbsent(0, 0)", x.ifAbsent(0, 0), 84);
            due("ifAbsent(1, 4)", x.ifAbsent(1, 4), 51);
            due("ifAbsent(3, 2)", x.ifAbsent(3, 2), 84);
            due("fundLasts(0)", x.fundLasts(0), 0);
            due("weakest()", x.weakest(), 0);
            due("weeksToGo()", x.weeksToGo(), 3);
        }
    }

    public static void main(String[] args) throws Exception {
        runAll(TermsBoundariesTest.class);
    }
}
