/** A group that borrows together, as ../shared/DOC.md tells it. */
public final class JointLoans {
    public static final int NONE = -1;

    private static final int NUMBERS = 8;
    private static final int SAVED_STATES = 6;
    private static final int BUFFER_SIZE = 60;

    private static final int LEAST_SUM = 10;
    private static final int MOST_SUM = 2000;
    private static final int MOST_WEEKS = 52;
    private static final int MOST_MONEY = 2000;
    private static final int LAST_WEEK = 999;

    private static final int FIRST_LIMIT = 200;
    private static final int LEAST_LIMIT = 20;
    private static final int MOST_LIMIT = 2000;
    private static final int MANY_MISSED = 3;

    private static final int INTEREST = 0;
    private static final int SAVING = 1;
    private static final int CHAIR_WEEKS = 2;
    private static final int GRANT = 3;
    private static final int SETTINGS = 4;
    private static final int[] LEAST_SETTING = {0, 0, 1, 0};
    private static final int[] MOST_SETTING = {50, 99, 20, 100};

    private static final int LOAN = 1;
    private static final int AWAY = 2;
    private static final int PAY = 3;
    private static final int HELP = 4;
    private static final int WEEK = 5;
    private static final int CYCLE = 6;

    private static final int PROPERTIES = 14;
    private static final int OWED_BY_OTHERS = 11;
    private static final int COUNTS = 16;
    private static final int SAVED_COUNT = 15;
    private static final int ALL_NUMBERS = 255;
    private static final int OUTCOMES = 5;
    private static final long FIRST_HASH = 2713L;

    private final Group group = new Group();
    /** Here a week is tried out, so that nothing is made anew by each question. */
    private final Group trial = new Group();
    private final History history = new History();
    private final OrderText text = new OrderText();

    public JointLoans() {
    }

    // ---- members

    public int join() throws IllegalStateException {
        if (group.numbersGiven >= NUMBERS) {
            throw new IllegalStateException("all numbers are given");
        }
        history.keep(group);
        return group.admit();
    }

    public int leave(int member) throws IndexOutOfBoundsException, IllegalStateException {
        Member leaving = memberOrThrow(member);
        if (!group.mayGo(leaving)) {
            throw new IllegalStateException("the member cannot leave");
        }
        history.keep(group);
        return group.dismiss(leaving);
    }

    // ---- loans

    public int lend(int member, int sum, int weeks)
            throws IndexOutOfBoundsException, IllegalArgumentException, IllegalStateException {
        Member borrower = memberOrThrow(member);
        if (sum < LEAST_SUM || sum > MOST_SUM || weeks < 1 || weeks > MOST_WEEKS) {
            throw new IllegalArgumentException("sum or weeks is out of range");
        }
        if (!borrower.mayBorrow(sum)) {
            throw new IllegalStateException("the member cannot borrow this");
        }
        history.keep(group);
        group.grantLoan(borrower, sum, weeks);
        return borrower.due();
    }

    public int absent(int member) throws IndexOutOfBoundsException {
        Member someone = memberOrThrow(member);
        history.keep(group);
        someone.isAway = !someone.isAway;
        return group.awayMembers();
    }

    public int week() throws IllegalStateException {
        if (!group.mayEndWeek()) {
            throw new IllegalStateException("there is no week behind this one");
        }
        history.keep(group);
        int paidBefore = group.bankPaid;
        group.endWeek();
        return group.bankPaid - paidBefore;
    }

    public int payBack(int member, int money)
            throws IndexOutOfBoundsException, IllegalArgumentException, IllegalStateException {
        Member debtor = memberOrThrow(member);
        checkMoney(money);
        if (!debtor.hasDebts()) {
            throw new IllegalStateException("the member has no debts");
        }
        history.keep(group);
        return group.takePayment(debtor, money);
    }

    public int help(int member, int money)
            throws IndexOutOfBoundsException, IllegalArgumentException, IllegalStateException {
        Member helped = memberOrThrow(member);
        checkMoney(money);
        if (!group.mayHelp(helped, money)) {
            throw new IllegalStateException("the help cannot be granted");
        }
        history.keep(group);
        group.grantHelp(helped, money);
        return group.fund;
    }

    public int cycle() throws IllegalStateException {
        if (!group.mayBeginCycle()) {
            throw new IllegalStateException("there are loans or debts to the bank");
        }
        history.keep(group);
        group.beginCycle();
        return group.cycleNumber;
    }

    public int set(int setting, int value) throws IndexOutOfBoundsException, IllegalArgumentException {
        checkSetting(setting);
        if (value < LEAST_SETTING[setting] || value > MOST_SETTING[setting]) {
            throw new IllegalArgumentException("the value is out of range");
        }
        history.keep(group);
        int previous = group.settings[setting];
        group.settings[setting] = value;
        return previous;
    }

    // ---- texts

    public int append(int code) throws IllegalArgumentException, IllegalStateException {
        if (code < 33 || code > 126) {
            throw new IllegalArgumentException("the code is out of range");
        }
        if (text.length >= BUFFER_SIZE) {
            throw new IllegalStateException("the buffer is full");
        }
        text.add((char) code);
        return text.length;
    }

    public int clearBuffer() {
        int before = text.length;
        text.clear();
        return before;
    }

    public int firstError() {
        text.readAll();
        return text.place;
    }

    public int run() throws IllegalArgumentException {
        if (!text.readAll()) {
            throw new IllegalArgumentException("the buffer is not complete orders");
        }
        history.keep(group);
        int carriedOut = 0;
        text.restart();
        for (int i = 0; i < BUFFER_SIZE; i++) {
            if (!text.readOrder() || !carryOut()) {
                break;
            }
            carriedOut++;
            if (!text.readMark(';')) {
                break;
            }
        }
        text.clear();
        return carriedOut;
    }

    public int undo() throws IllegalStateException {
        if (history.size <= 0) {
            throw new IllegalStateException("no state is saved");
        }
        history.takeBack(group);
        return history.size;
    }

    // ---- looks; nothing is changed

    public int member(int member, int what) throws IndexOutOfBoundsException, IllegalArgumentException {
        Member looked = memberOrThrow(member);
        if (what < 0 || what >= PROPERTIES) {
            throw new IllegalArgumentException("there is no such property");
        }
        return propertyOf(looked, what);
    }

    public int owes(int member, int other) throws IndexOutOfBoundsException {
        Member debtor = memberOrThrow(member);
        Member creditor = memberOrThrow(other);
        return debtor.debts[creditor.number];
    }

    public int count(int what) throws IllegalArgumentException {
        if (what < 0 || what >= COUNTS) {
            throw new IllegalArgumentException("there is no such number");
        }
        return numberOf(what);
    }

    public int setting(int setting) throws IndexOutOfBoundsException {
        checkSetting(setting);
        return group.settings[setting];
    }

    // ---- what would be; nothing is changed, and the limit of weeks does not matter

    public int ifAbsent(int absent, int what) throws IllegalArgumentException {
        if (absent < 0 || absent > ALL_NUMBERS || what < 0 || what >= OUTCOMES) {
            throw new IllegalArgumentException("absent or what is out of range");
        }
        tryWeek(absent);
        return outcome(what);
    }

    public int fundLasts(int member) throws IndexOutOfBoundsException {
        return group.weeksOfFund(memberOrThrow(member));
    }

    public int weakest() {
        return group.weakestNumber();
    }

    public int weeksToGo() {
        return group.mostLoanWeeks();
    }

    public int ifCycle(int member) throws IndexOutOfBoundsException {
        return memberOrThrow(member).nextLimit();
    }

    public double paidShare() {
        return group.shareOfPaid();
    }

    public long digest() {
        long hash = FIRST_HASH;
        for (int what = 0; what < COUNTS; what++) {
            hash = mixed(hash, numberOf(what));
        }
        for (int setting = 0; setting < SETTINGS; setting++) {
            hash = mixed(hash, group.settings[setting]);
        }
        for (Member each : group.members) {
            if (each.isHere) {
                hash = mixedWithMember(hash, each);
            }
        }
        hash = mixedWithOutcomes(hash, 0);
        hash = mixedWithOutcomes(hash, 1);
        hash = mixedWithOutcomes(hash, ALL_NUMBERS);
        hash = mixed(hash, group.weakestNumber());
        hash = mixed(hash, group.mostLoanWeeks());
        hash = mixed(hash, bitsOf(group.shareOfPaid()));
        return mixedWithText(hash);
    }

    // ---- what the calls above share

    private Member memberOrThrow(int number) {
        Member found = group.find(number);
        if (found == null) {
            throw new IndexOutOfBoundsException("there is no such member");
        }
        return found;
    }

    private static void checkSetting(int setting) {
        if (setting < 0 || setting >= SETTINGS) {
            throw new IndexOutOfBoundsException("there is no such setting");
        }
    }

    private static void checkMoney(int money) {
        if (money < 1 || money > MOST_MONEY) {
            throw new IllegalArgumentException("money is out of range");
        }
    }

    private int propertyOf(Member looked, int what) {
        return what == OWED_BY_OTHERS ? group.owedTo(looked) : looked.property(what);
    }

    private int numberOf(int what) {
        return what == SAVED_COUNT ? history.size : group.figure(what);
    }

    /** Carries out the order that was read last; tells whether its method would not throw. */
    private boolean carryOut() {
        switch (text.kind) {
            case WEEK:
                return carryOutWeek();
            case CYCLE:
                return carryOutCycle();
            default:
                Member named = group.find(text.who);
                return named != null && carryOutFor(named);
        }
    }

    private boolean carryOutWeek() {
        boolean may = group.mayEndWeek();
        if (may) {
            group.endWeek();
        }
        return may;
    }

    private boolean carryOutCycle() {
        boolean may = group.mayBeginCycle();
        if (may) {
            group.beginCycle();
        }
        return may;
    }

    private boolean carryOutFor(Member named) {
        switch (text.kind) {
            case LOAN:
                return carryOutLoan(named);
            case AWAY:
                named.isAway = true;
                return true;
            case PAY:
                return carryOutPayment(named);
            case HELP:
                return carryOutHelp(named);
            default:
                return false;
        }
    }

    private boolean carryOutLoan(Member borrower) {
        boolean may = borrower.mayBorrow(text.amount);
        if (may) {
            group.grantLoan(borrower, text.amount, text.weeks);
        }
        return may;
    }

    private boolean carryOutPayment(Member debtor) {
        boolean may = debtor.hasDebts();
        if (may) {
            group.takePayment(debtor, text.amount);
        }
        return may;
    }

    private boolean carryOutHelp(Member helped) {
        boolean may = group.mayHelp(helped, text.amount);
        if (may) {
            group.grantHelp(helped, text.amount);
        }
        return may;
    }

    /** Ends the week in the trial, with those absent whose bits are set. */
    private void tryWeek(int mask) {
        trial.copyFrom(group);
        trial.letBeAway(mask);
        trial.endWeek();
    }

    /** What the tried week has brought. */
    private int outcome(int what) {
        switch (what) {
            case 0:
                return trial.bankPaid - group.bankPaid;
            case 1:
                return trial.fund;
            case 2:
                return trial.bankDebts();
            case 3:
                return trial.debtsAmongMembers();
            default:
                return trial.mostPaidForOthersSince(group);
        }
    }

    private long mixedWithMember(long start, Member one) {
        long hash = mixed(start, one.number);
        for (int what = 0; what < PROPERTIES; what++) {
            hash = mixed(hash, propertyOf(one, what));
        }
        for (Member other : group.members) {
            if (other.isHere) {
                hash = mixed(hash, one.debts[other.number]);
            }
        }
        hash = mixed(hash, group.weeksOfFund(one));
        return mixed(hash, one.nextLimit());
    }

    private long mixedWithOutcomes(long start, int mask) {
        long hash = start;
        tryWeek(mask);
        for (int what = 0; what < OUTCOMES; what++) {
            hash = mixed(hash, outcome(what));
        }
        return hash;
    }

    private long mixedWithText(long start) {
        long hash = mixed(start, text.length);
        for (int i = 0; i < text.length && i < BUFFER_SIZE; i++) {
            hash = mixed(hash, text.chars[i]);
        }
        return hash;
    }

    private static long mixed(long hash, long value) {
        return 31L * hash + value;
    }

    /** The bits of a double from 0 to 1, found by doubling, since Double is not in the language. */
    private static long bitsOf(double share) {
        if (share <= 0.0) {
            return 0L;
        }
        double scaled = share;
        long exponent = 1023L;
        while (scaled < 1.0 && exponent > 1L) {
            scaled = scaled * 2.0;
            exponent--;
        }
        long fraction = (long) ((scaled - 1.0) * 4503599627370496.0);
        return (exponent << 52) + fraction;
    }

    /** One number of the group, with all that its member has and owes. */
    private static final class Member {
        private final int number;
        private boolean isHere;
        private int limit;
        private int loanSum;
        private int loanPart;
        private int loanInterest;
        private int loanLeft;
        private int loanWeeks;
        private boolean isAway;
        private int missedInCycle;
        private int missedSoFar;
        private int bankDebt;
        private int fundDebt;
        private int savedSoFar;
        private int paidForOthers;
        /** What this member owes each number. */
        private final int[] debts = new int[NUMBERS];

        private Member(int number) {
            this.number = number;
        }

        private boolean hasLoan() {
            return loanWeeks > 0;
        }

        /** What the loan is less by in the next week. */
        private int part() {
            return loanWeeks == 1 ? loanLeft : loanPart;
        }

        private int due() {
            return hasLoan() ? part() + loanInterest : 0;
        }

        private int debtToMembers() {
            int sum = 0;
            for (int debt : debts) {
                sum += debt;
            }
            return sum;
        }

        private boolean hasDebts() {
            return bankDebt > 0 || fundDebt > 0 || debtToMembers() > 0;
        }

        private boolean mayBorrow(int sum) {
            return !hasLoan() && !hasDebts() && sum <= limit;
        }

        private void borrow(int sum, int weeks, int interest) {
            if (weeks < 1) {
                return;
            }
            loanSum = sum;
            loanPart = sum / weeks;
            loanInterest = interest;
            loanLeft = sum;
            loanWeeks = weeks;
        }

        private void lessenLoan() {
            loanLeft -= part();
            loanWeeks--;
            if (loanWeeks == 0) {
                loanSum = 0;
                loanPart = 0;
                loanInterest = 0;
            }
        }

        private int nextLimit() {
            if (missedInCycle == 0) {
                return Math.min(limit + limit / 2, MOST_LIMIT);
            }
            return missedInCycle >= MANY_MISSED ? Math.max(limit / 2, LEAST_LIMIT) : limit;
        }

        /** All properties but what others owe to the member. */
        private int property(int what) {
            switch (what) {
                case 0:
                    return limit;
                case 1:
                    return loanSum;
                case 2:
                    return loanLeft;
                case 3:
                    return loanWeeks;
                case 4:
                    return due();
                case 5:
                    return isAway ? 1 : 0;
                case 6:
                    return missedInCycle;
                case 7:
                    return missedSoFar;
                case 8:
                    return bankDebt;
                case 9:
                    return fundDebt;
                case 10:
                    return debtToMembers();
                case 12:
                    return savedSoFar;
                default:
                    return paidForOthers;
            }
        }

        private void copyFrom(Member other) {
            isHere = other.isHere;
            limit = other.limit;
            loanSum = other.loanSum;
            loanPart = other.loanPart;
            loanInterest = other.loanInterest;
            loanLeft = other.loanLeft;
            loanWeeks = other.loanWeeks;
            isAway = other.isAway;
            missedInCycle = other.missedInCycle;
            missedSoFar = other.missedSoFar;
            bankDebt = other.bankDebt;
            fundDebt = other.fundDebt;
            savedSoFar = other.savedSoFar;
            paidForOthers = other.paidForOthers;
            System.arraycopy(other.debts, 0, debts, 0, NUMBERS);
        }
    }

    /** The whole state but the buffer and the saved states. */
    private static final class Group {
        private final Member[] members = new Member[NUMBERS];
        private final int[] settings = new int[SETTINGS];
        private int numbersGiven;
        private int weekNumber;
        private int cycleNumber;
        private int chair = NONE;
        private int fund;
        private int bankLent;
        private int bankInterest;
        private int bankPaid;
        /** Kept here too, since the dues of those who left count. */
        private int missedSoFar;

        private Group() {
            for (int i = 0; i < NUMBERS; i++) {
                members[i] = new Member(i);
            }
            settings[INTEREST] = 5;
            settings[SAVING] = 5;
            settings[CHAIR_WEEKS] = 4;
            settings[GRANT] = 50;
        }

        private void copyFrom(Group other) {
            for (int i = 0; i < NUMBERS; i++) {
                members[i].copyFrom(other.members[i]);
            }
            System.arraycopy(other.settings, 0, settings, 0, SETTINGS);
            numbersGiven = other.numbersGiven;
            weekNumber = other.weekNumber;
            cycleNumber = other.cycleNumber;
            chair = other.chair;
            fund = other.fund;
            bankLent = other.bankLent;
            bankInterest = other.bankInterest;
            bankPaid = other.bankPaid;
            missedSoFar = other.missedSoFar;
        }

        /** The member with that number, or null. */
        private Member find(int number) {
            if (number < 0 || number >= NUMBERS || !members[number].isHere) {
                return null;
            }
            return members[number];
        }

        private int memberCount() {
            int sum = 0;
            for (Member each : members) {
                sum += each.isHere ? 1 : 0;
            }
            return sum;
        }

        private int awayMembers() {
            int sum = 0;
            for (Member each : members) {
                sum += each.isHere && each.isAway ? 1 : 0;
            }
            return sum;
        }

        /** Gives the next number, which there must be. */
        private int admit() {
            int number = numbersGiven;
            if (number < 0 || number >= NUMBERS) {
                return NONE;
            }
            if (memberCount() == 0) {
                chair = number;
            }
            members[number].isHere = true;
            members[number].limit = FIRST_LIMIT;
            numbersGiven++;
            return number;
        }

        private boolean mayGo(Member leaving) {
            return !leaving.hasLoan() && !leaving.hasDebts() && owedTo(leaving) == 0
                    && fund >= leaving.savedSoFar;
        }

        private int dismiss(Member leaving) {
            fund -= leaving.savedSoFar;
            leaving.isHere = false;
            if (chair == leaving.number) {
                chair = nextChair();
            }
            return leaving.savedSoFar;
        }

        /** The first member behind the chair, and at last the chair itself, that has no debts. */
        private int nextChair() {
            for (int step = 1; step <= NUMBERS; step++) {
                // without a chair this begins with 0, since NONE is -1
                Member asked = find(Math.floorMod(chair + step, NUMBERS));
                if (asked != null && !asked.hasDebts()) {
                    return asked.number;
                }
            }
            return NONE;
        }

        private void grantLoan(Member borrower, int sum, int weeks) {
            borrower.borrow(sum, weeks, sum * settings[INTEREST] / 1000);
            bankLent += sum;
        }

        private int takePayment(Member debtor, int money) {
            int toBank = Math.min(money, debtor.bankDebt);
            debtor.bankDebt -= toBank;
            bankPaid += toBank;
            int rest = money - toBank;
            int toFund = Math.min(rest, debtor.fundDebt);
            debtor.fundDebt -= toFund;
            fund += toFund;
            rest -= toFund;
            for (int i = 0; i < NUMBERS; i++) {
                int toMember = Math.min(rest, debtor.debts[i]);
                debtor.debts[i] -= toMember;
                rest -= toMember;
            }
            return money - rest;
        }

        private boolean mayHelp(Member helped, int money) {
            return chair != NONE && chair != helped.number && helped.fundDebt == 0
                    && money <= fund * settings[GRANT] / 100;
        }

        private void grantHelp(Member helped, int money) {
            fund -= money;
            helped.fundDebt += money;
        }

        private boolean mayBeginCycle() {
            return mostLoanWeeks() == 0 && bankDebts() == 0;
        }

        private void beginCycle() {
            for (Member each : members) {
                each.limit = each.nextLimit();
                each.missedInCycle = 0;
            }
            cycleNumber++;
        }

        private boolean mayEndWeek() {
            return weekNumber < LAST_WEEK;
        }

        private void endWeek() {
            for (Member each : members) {
                if (each.isHere && each.hasLoan()) {
                    settleDue(each);
                }
            }
            saveMoney();
            weekNumber++;
            if (settings[CHAIR_WEEKS] > 0 && weekNumber % settings[CHAIR_WEEKS] == 0) {
                chair = nextChair();
            }
            letBeAway(0);
        }

        private void settleDue(Member debtor) {
            int due = debtor.due();
            bankInterest += debtor.loanInterest;
            if (debtor.isAway) {
                coverMissed(debtor, due);
            } else {
                bankPaid += due;
            }
            debtor.lessenLoan();
        }

        private void coverMissed(Member debtor, int due) {
            debtor.missedInCycle++;
            debtor.missedSoFar++;
            missedSoFar++;
            int fromFund = Math.min(due, fund);
            fund -= fromFund;
            debtor.fundDebt += fromFund;
            bankPaid += fromFund;
            int rest = due - fromFund;
            int helpers = memberCount() - awayMembers();
            if (helpers > 0) {
                shareRest(debtor, rest, helpers);
            } else {
                debtor.bankDebt += rest;
            }
        }

        private void shareRest(Member debtor, int rest, int helpers) {
            if (helpers <= 0) {
                return;
            }
            int each = rest / helpers;
            int oneMore = rest % helpers;
            for (Member helper : members) {
                if (helper.isHere && !helper.isAway) {
                    int share = oneMore > 0 ? each + 1 : each;
                    oneMore--;
                    debtor.debts[helper.number] += share;
                    helper.paidForOthers += share;
                }
            }
            bankPaid += rest;
        }

        private void saveMoney() {
            for (Member each : members) {
                if (each.isHere && !each.isAway) {
                    each.savedSoFar += settings[SAVING];
                    fund += settings[SAVING];
                }
            }
        }

        /** Lets those be absent whose bits are set, and no others. */
        private void letBeAway(int mask) {
            for (int i = 0; i < NUMBERS; i++) {
                members[i].isAway = (mask >> i & 1) == 1;
            }
        }

        private int owedTo(Member creditor) {
            int sum = 0;
            for (Member each : members) {
                sum += each.debts[creditor.number];
            }
            return sum;
        }

        private int loansLeft() {
            int sum = 0;
            for (Member each : members) {
                sum += each.loanLeft;
            }
            return sum;
        }

        private int bankDebts() {
            int sum = 0;
            for (Member each : members) {
                sum += each.bankDebt;
            }
            return sum;
        }

        private int fundDebts() {
            int sum = 0;
            for (Member each : members) {
                sum += each.fundDebt;
            }
            return sum;
        }

        private int debtsAmongMembers() {
            int sum = 0;
            for (Member each : members) {
                sum += each.debtToMembers();
            }
            return sum;
        }

        /** All counts but that of the saved states. */
        private int figure(int what) {
            switch (what) {
                case 0:
                    return weekNumber;
                case 1:
                    return cycleNumber;
                case 2:
                    return chair;
                case 3:
                    return memberCount();
                case 4:
                    return fund;
                case 5:
                    return loansLeft();
                case 6:
                    return bankDebts();
                case 7:
                    return fundDebts();
                case 8:
                    return debtsAmongMembers();
                case 9:
                    return bankLent;
                case 10:
                    return bankInterest;
                case 11:
                    return bankPaid;
                case 12:
                    return bankLent + bankInterest - bankPaid;
                case 13:
                    return missedSoFar;
                default:
                    return awayMembers();
            }
        }

        private int mostPaidForOthersSince(Group before) {
            int most = 0;
            for (int i = 0; i < NUMBERS; i++) {
                most = Math.max(most, members[i].paidForOthers - before.members[i].paidForOthers);
            }
            return most;
        }

        /** Only one member is absent, so only that one's dues and all the others' savings matter. */
        private int weeksOfFund(Member away) {
            int ready = fund;
            int left = away.loanLeft;
            int savings = (memberCount() - 1) * settings[SAVING];
            for (int ahead = 0; ahead < away.loanWeeks; ahead++) {
                int part = ahead == away.loanWeeks - 1 ? left : away.loanPart;
                int due = part + away.loanInterest;
                if (due > ready) {
                    return ahead;
                }
                ready += savings - due;
                left -= part;
            }
            return NONE;
        }

        /** With one member absent, what the fund has not is all that the others pay. */
        private int weakestNumber() {
            int weakest = NONE;
            int most = 0;
            if (memberCount() < 2) {
                return NONE;
            }
            for (Member each : members) {
                int rest = each.due() - fund;
                if (rest > most) {
                    most = rest;
                    weakest = each.number;
                }
            }
            return weakest;
        }

        private int mostLoanWeeks() {
            int most = 0;
            for (Member each : members) {
                most = Math.max(most, each.loanWeeks);
            }
            return most;
        }

        private double shareOfPaid() {
            int due = bankLent + bankInterest;
            return due > 0 ? (double) bankPaid / due : 1.0;
        }
    }

    /** The latest saved states, in rows that are used round and round. */
    private static final class History {
        private final Group[] states = new Group[SAVED_STATES];
        private int oldest;
        private int size;

        private History() {
            for (int i = 0; i < SAVED_STATES; i++) {
                states[i] = new Group();
            }
        }

        private void keep(Group state) {
            states[Math.floorMod(oldest + size, SAVED_STATES)].copyFrom(state);
            if (size < SAVED_STATES) {
                size++;
            } else {
                oldest = Math.floorMod(oldest + 1, SAVED_STATES);
            }
        }

        /** Puts the latest state back, of which there must be one. */
        private void takeBack(Group into) {
            if (size <= 0) {
                return;
            }
            size--;
            into.copyFrom(states[Math.floorMod(oldest + size, SAVED_STATES)]);
        }
    }

    /** The buffer, and a reader of orders that goes through it and stops where it cannot go on. */
    private static final class OrderText {
        private final char[] chars = new char[BUFFER_SIZE];
        private int length;
        private int place;
        // the order that was read last
        private int kind;
        private int who;
        private int amount;
        private int weeks;

        private void add(char sign) {
            if (length >= 0 && length < BUFFER_SIZE) {
                chars[length] = sign;
                length++;
            }
        }

        private void clear() {
            length = 0;
        }

        private void restart() {
            place = 0;
        }

        /** Tells whether the buffer is complete orders; place is then the first error, or the length. */
        private boolean readAll() {
            restart();
            for (int i = 0; i < BUFFER_SIZE; i++) {
                if (!readOrder()) {
                    return false;
                }
                if (place >= length) {
                    return true;
                }
                if (!readMark(';')) {
                    return false;
                }
            }
            return false;
        }

        private boolean readOrder() {
            switch (next()) {
                case 'l':
                    kind = LOAN;
                    return readWord("loan") && readWho() && readMark('*') && readAmount(LEAST_SUM, MOST_SUM)
                            && readMark('/') && readWeeks();
                case 'a':
                    kind = AWAY;
                    return readWord("away") && readWho();
                case 'p':
                    kind = PAY;
                    return readWord("pay") && readWho() && readMark('*') && readAmount(1, MOST_MONEY);
                case 'h':
                    kind = HELP;
                    return readWord("help") && readWho() && readMark('*') && readAmount(1, MOST_MONEY);
                case 'w':
                    kind = WEEK;
                    return readWord("week");
                case 'c':
                    kind = CYCLE;
                    return readWord("cycle");
                default:
                    return false;
            }
        }

        /** The character at the place, NONE behind the last one. */
        private int next() {
            return place >= 0 && place < length && place < BUFFER_SIZE ? chars[place] : NONE;
        }

        private boolean readMark(char mark) {
            boolean fits = next() == mark;
            if (fits) {
                place++;
            }
            return fits;
        }

        private boolean readWord(String word) {
            for (int i = 0; i < word.length(); i++) {
                if (!readMark(word.charAt(i))) {
                    return false;
                }
            }
            return true;
        }

        private boolean readWho() {
            who = next() - '0';
            boolean fits = who >= 0 && who < NUMBERS;
            if (fits) {
                place++;
            }
            return fits;
        }

        private boolean readAmount(int least, int most) {
            amount = readNumber(most);
            return amount >= least;
        }

        private boolean readWeeks() {
            weeks = readNumber(MOST_WEEKS);
            return weeks >= 1;
        }

        /** Reads digits as long as they are a number up to the most without a leading zero; 0 without one. */
        private int readNumber(int most) {
            int value = 0;
            for (int i = 0; i < BUFFER_SIZE; i++) {
                int digit = next() - '0';
                int longer = value * 10 + digit;
                if (digit < 0 || digit > 9 || longer < 1 || longer > most) {
                    break;
                }
                value = longer;
                place++;
            }
            return value;
        }
    }
}
