/** Each sentence that names a boundary, of the promises 1 to 34, has a test of its own. */
public final class EdgesTest extends Checks {
    private static final int[] NO_HOURS = {0, 21, -1, LEAST, GREATEST};
    private static final int[] NO_MONTHS = {0, 7, -1, LEAST, GREATEST};

    private EdgesTest() {
    }

    public static void main(String[] args) {
        newObject();
        changesOfTreaties();
        changesOfCredits();
        changesOfTowns();
        monthsThatGoBy();
        numbersOfTownsAndCredits();
        whatIsOwed();
        ways();
        whatWouldBe();
        orders();
        sums();
        lines();
        inputs();
        backAgain();
        end();
    }

    /** Promise 1: "Creates a ministry in the month 0", of which nothing was kept or changed yet. */
    private static void newObject() {
        WeatherMinistry m = fresh("1 a new object");
        same(0, m.account(0));
        same(STATE, m.undo());
        same(STATE, m.restore());
        same(STATE, m.fault());
        same(STATE, m.reason(0, false));
        same(NONE, m.written(0));
        same(NONE, m.creditOf(0, 0));
        WeatherMinistry other = fresh("1 a new object beside another one");
        months(m, 3);
        type(m, "month");
        m.treaty(0, 1, true);
        m.save();
        m.treaty(0, 0, true);
        same(picture(new WeatherMinistry()), picture(other));
        same(0, other.account(14));
        same(STATE, other.restore());
        same(STATE, other.reason(0, false));
    }

    private static void changesOfTreaties() {
        treatyOfNoTown();
        treatyCounts();
    }

    /** Promise 2: "NONE if there is no such town, for either". */
    private static void treatyOfNoTown() {
        WeatherMinistry m = fresh("2 a treaty of no town");
        for (int town : NO_TOWNS) {
            same(NONE, m.treaty(town, 0, true));
            same(NONE, m.treaty(0, town, true));
            same(NONE, m.treaty(town, town, true));
            same(NONE, m.treaty(town, 4, false));
            same(NONE, m.treaty(4, town, false));
        }
        same(STATE, m.reason(0, false));
        same(0, m.account(2));
        same(1, m.treaty(0, 4, true));
    }

    /** Promise 2: "Returns how many treaties there are then", from none to all ten and back. */
    private static void treatyCounts() {
        WeatherMinistry m = fresh("2 how many treaties there are");
        int treaties = 0;
        for (int one = 0; one < 5; one++) {
            for (int other = 0; other < one; other++) {
                treaties++;
                same(treaties, m.treaty(one, other, true));
            }
        }
        same(10, treaties);
        for (int one = 0; one < 5; one++) {
            for (int other = 0; other < one; other++) {
                treaties--;
                same(treaties, m.treaty(other, one, false));
            }
        }
        same(0, m.account(2));
    }

    private static void changesOfCredits() {
        creditOfNoTown();
        creditHours();
        creditMonths();
        creditNumbers();
        repayOfNoCredit();
        repayReturnsTheSun();
    }

    /** Promise 3: "NONE if there is no such town". */
    private static void creditOfNoTown() {
        WeatherMinistry m = fresh("3 a credit of no town");
        for (int town : NO_TOWNS) {
            same(NONE, m.credit(town, 1, 1));
            same(NONE, m.credit(town, 0, 0));
        }
        same(0, m.credit(0, 1, 1));
        same(1, m.credit(4, 1, 1));
    }

    /** Promise 3: "how many hours, 1 to 20". */
    private static void creditHours() {
        WeatherMinistry m = fresh("3 hours of a credit");
        for (int hours : NO_HOURS) {
            same(BAD, m.credit(0, hours, 1));
        }
        same(STATE, m.reason(0, false));
        same(0, m.credit(0, 1, 1));
        same(1, m.credit(1, 20, 1));
        same("0*1@1 1*20@1", credits(m));
    }

    /** Promise 3: "in how many months it is due, 1 to 6". */
    private static void creditMonths() {
        WeatherMinistry m = fresh("3 months of a credit");
        for (int months : NO_MONTHS) {
            same(BAD, m.credit(0, 1, months));
        }
        same(STATE, m.reason(0, false));
        same(0, m.credit(0, 1, 1));
        same(1, m.credit(1, 1, 6));
        same("0*1@1 1*1@6", credits(m));
    }

    /** Promise 3: "Returns the number of the credit; ... REFUSED for 2, 1 or 3". */
    private static void creditNumbers() {
        WeatherMinistry m = fresh("3 the number of a credit");
        for (int number = 0; number < 8; number++) {
            same(number, m.credit(number % 5, 20, 6));
        }
        refused(m, m.credit(4, 1, 1), 1, 8);
        m.repay(0);
        same(7, m.credit(4, 20, 1));
        m.repay(0);
        refused(m, m.credit(4, 20, 1), 3, 10);
        same(7, m.credit(4, 10, 1));
        WeatherMinistry poor = fresh("3 the reasons of a credit");
        bringToArrears(poor, 3, 1);
        refused(poor, poor.credit(3, 1, 1), 2, 1);
        same(0, poor.credit(2, 1, 1));
    }

    /** Promise 4: "NONE if there is no such credit". */
    private static void repayOfNoCredit() {
        WeatherMinistry m = fresh("4 no such credit");
        same(NONE, m.repay(0));
        for (int i = 0; i < 8; i++) {
            same(NONE, m.repay(i));
            m.credit(0, 1, 1);
        }
        int[] none = {-1, 8, LEAST, GREATEST};
        for (int credit : none) {
            same(NONE, m.repay(credit));
        }
        same(17, m.repay(7));
        same(NONE, m.repay(7));
        m.month();
        same(NONE, m.repay(0));
        same(STATE, m.reason(0, false));
    }

    /** Promise 4: "Returns the sun that the town has then; ... REFUSED for 4". */
    private static void repayReturnsTheSun() {
        WeatherMinistry m = fresh("4 the sun that is left");
        m.credit(0, 10, 6);
        m.credit(1, 3, 6);
        m.credit(0, 2, 6);
        buyAll(m, 0, 3);
        same(10, m.townOf(0, 0));
        same(0, m.repay(0));
        same("1*3@6 0*2@6", credits(m));
        refused(m, m.repay(1), 4, 0);
        same(10, m.repay(0));
        same("0*2@6", credits(m));
        same(13, m.account(8));
        same(0, m.account(11));
        same(0, m.account(12));
    }

    private static void changesOfTowns() {
        rainOfNoTown();
        rainHours();
        rainReturnsAllHours();
        bailOfNoTown();
        bailUmbrellas();
        bailReturnsTheArrears();
        buyOfNoTown();
        buyReturnsTheUmbrellas();
    }

    /** Promise 5: "NONE if there is no such town". */
    private static void rainOfNoTown() {
        WeatherMinistry m = fresh("5 rain in no town");
        for (int town : NO_TOWNS) {
            same(NONE, m.rain(town, 1));
            same(NONE, m.rain(town, 0));
        }
        same(0, m.account(4));
        same(1, m.rain(0, 1));
        same(1, m.rain(4, 1));
    }

    /** Promise 5: "how many hours, 1 to 20". */
    private static void rainHours() {
        WeatherMinistry m = fresh("5 hours of rain");
        for (int hours : NO_HOURS) {
            same(BAD, m.rain(0, hours));
        }
        same(0, m.account(4));
        same(1, m.rain(0, 1));
        same(20, m.rain(0, 20));
        same(21, m.account(4));
    }

    /** Promise 5: "how many hours all towns get together, what is lost included". */
    private static void rainReturnsAllHours() {
        WeatherMinistry m = fresh("5 what is lost included");
        m.treaty(0, 1, true);
        for (int i = 0; i < 8; i++) {
            same(30, m.rain(0, 20));
        }
        same(120, m.account(4));
        same(1, m.rain(1, 1));
        same(120, m.account(4));
    }

    /** Promise 6: "NONE if there is no such town". */
    private static void bailOfNoTown() {
        WeatherMinistry m = fresh("6 bail of no town");
        for (int town : NO_TOWNS) {
            same(NONE, m.bail(town, 1));
            same(NONE, m.bail(town, 0));
        }
        same(STATE, m.reason(0, false));
        refused(m, m.bail(0, 1), 5, 2);
        refused(m, m.bail(4, 1), 5, 2);
    }

    /** Promise 6: "how many, 1 to 9". */
    private static void bailUmbrellas() {
        WeatherMinistry m = fresh("6 umbrellas as bail");
        bringToArrears(m, 0, 17);
        for (int umbrellas : new int[] {0, 10, -1, LEAST, GREATEST}) {
            same(BAD, m.bail(0, umbrellas));
            same(BAD, m.bail(1, umbrellas));
        }
        same(STATE, m.reason(0, false));
        same(14, m.bail(0, 1));
        refused(m, m.bail(0, 9), 6, 4);
        refused(m, m.bail(1, 9), 5, 2);
    }

    /** Promise 6: "Returns its arrears then; ... REFUSED for 5 or 6". */
    private static void bailReturnsTheArrears() {
        WeatherMinistry m = fresh("6 the arrears that are left");
        bringToArrears(m, 1, 12);
        int umbrellas = m.townOf(1, 2);
        same(5, umbrellas);
        refused(m, m.bail(1, 6), 6, 5);
        same(0, m.bail(1, 4));
        refused(m, m.bail(1, 1), 5, 1);
        refused(m, m.bail(1, 2), 5, 1);
    }

    /** Promise 7: "NONE if there is no such town". */
    private static void buyOfNoTown() {
        WeatherMinistry m = fresh("7 an umbrella for no town");
        for (int town : NO_TOWNS) {
            same(NONE, m.buy(town));
        }
        same(STATE, m.reason(0, false));
        same(3, m.buy(0));
        same(3, m.buy(4));
    }

    /** Promise 7: "Returns how many it has then; ... REFUSED for 1 or 4". */
    private static void buyReturnsTheUmbrellas() {
        WeatherMinistry m = fresh("7 how many umbrellas it has");
        bringToSun(m, 0, 30);
        for (int umbrellas = 3; umbrellas <= 9; umbrellas++) {
            same(umbrellas, m.buy(0));
        }
        refused(m, m.buy(0), 1, 9);
        same(2, m.townOf(0, 0));
        WeatherMinistry first = fresh("7 the first umbrella");
        bringToArrears(first, 0, 1);
        first.bail(0, 4);
        first.credit(0, 3, 6);
        same("0:4s1r0u", town(first, 0));
        same(1, first.buy(0));
        refused(first, first.buy(0), 4, 0);
    }

    private static void monthsThatGoBy() {
        noneUnpaid();
        allUnpaid();
        unpaidOfThoseThatAreDue();
    }

    /** Promise 8: "Returns how many credits were not paid in full": none, also if none are there. */
    private static void noneUnpaid() {
        WeatherMinistry m = fresh("8 none are unpaid");
        same(0, m.month());
        m.credit(0, 20, 1);
        m.credit(1, 20, 1);
        same(0, m.month());
        same(2, m.account(13));
    }

    /** Promise 8: all eight at once. */
    private static void allUnpaid() {
        WeatherMinistry m = fresh("8 all are unpaid");
        m.credit(0, 20, 1);
        buyAll(m, 0, 7);
        for (int i = 1; i < 8; i++) {
            m.credit(0, 1, 1);
        }
        same(9, m.townOf(0, 0));
        same(8, m.month());
        same("0:1s33r5u17a", town(m, 0));
        same(8, m.account(12));
        same(0, m.account(13));
        same(36, m.account(11));
        same(0, m.account(1));
        same(0, m.month());
    }

    /** Promise 8: a credit that is due later is neither paid nor unpaid. */
    private static void unpaidOfThoseThatAreDue() {
        WeatherMinistry m = fresh("8 of those that are due");
        m.credit(0, 1, 2);
        bringToLack(m, 0, 18);
        m.credit(1, 1, 1);
        same(1, m.month());
        same("0*1@2", credits(m));
        same(2, m.account(12));
        same(1, m.account(13));
        same(0, m.month());
        same(3, m.account(12));
    }

    private static void numbersOfTownsAndCredits() {
        townOfNoTown();
        townOfNoSuchNumber();
        townsThatTreatiesLeadTo();
        creditOfNoCredit();
        creditOfNoSuchNumber();
        creditDueIn();
    }

    /** Promise 9: "NONE if there is no such town". */
    private static void townOfNoTown() {
        WeatherMinistry m = fresh("9 no such town");
        for (int town : NO_TOWNS) {
            for (int what = -1; what <= 7; what++) {
                same(NONE, m.townOf(town, what));
            }
        }
    }

    /** Promise 9: "0 for its sun, ... 6 for how many towns treaties lead to", and BAD beside them. */
    private static void townOfNoSuchNumber() {
        WeatherMinistry m = fresh("9 no such number");
        for (int what : new int[] {-1, 7, LEAST, GREATEST}) {
            same(BAD, m.townOf(0, what));
            same(BAD, m.townOf(4, what));
        }
        m.treaty(2, 3, true);
        m.treaty(3, 4, true);
        m.credit(2, 7, 1);
        m.credit(2, 1, 1);
        m.rain(2, 9);
        m.buy(2);
        int[] due = {14, 9, 3, 0, 2, 1, 2};
        for (int what = 0; what < due.length; what++) {
            same(due[what], m.townOf(2, what));
        }
        m.repay(1);
        same(1, m.townOf(2, 4));
        m.repay(0);
        same(0, m.townOf(2, 4));
    }

    /** Promise 9: "how many towns treaties lead to from it, over one or several, itself left out". */
    private static void townsThatTreatiesLeadTo() {
        WeatherMinistry m = fresh("9 towns that treaties lead to");
        same(0, m.townOf(0, 6));
        for (int town = 0; town < 4; town++) {
            m.treaty(town, town + 1, true);
            same(town + 1, m.townOf(0, 6));
            same(town + 1, m.townOf(town + 1, 6));
            same(1, m.townOf(0, 5));
        }
        m.treaty(0, 4, true);
        same(4, m.townOf(0, 6));
        same(2, m.townOf(0, 5));
        m.treaty(0, 2, true);
        m.treaty(0, 3, true);
        same(4, m.townOf(0, 5));
        same(4, m.townOf(0, 6));
    }

    /** Promise 10: "NONE if there is no such credit". */
    private static void creditOfNoCredit() {
        WeatherMinistry m = fresh("10 no such credit");
        for (int i = 0; i < 8; i++) {
            same(NONE, m.creditOf(i, 0));
            m.credit(i % 5, i + 1, 1);
            same(i + 1, m.creditOf(i, 1));
        }
        for (int credit : new int[] {-1, 8, LEAST, GREATEST}) {
            same(NONE, m.creditOf(credit, 0));
            same(NONE, m.creditOf(credit, 4));
        }
        m.month();
        same(NONE, m.creditOf(0, 0));
        same(NONE, m.creditOf(0, -1));
    }

    /** Promise 10: "0 for its town, ... 3 for in how many months that is", and BAD beside them. */
    private static void creditOfNoSuchNumber() {
        WeatherMinistry m = fresh("10 no such number");
        m.credit(4, 20, 6);
        for (int what : new int[] {-1, 4, LEAST, GREATEST}) {
            same(BAD, m.creditOf(0, what));
        }
        int[] due = {4, 20, 6, 6};
        for (int what = 0; what < due.length; what++) {
            same(due[what], m.creditOf(0, what));
        }
    }

    /** Promise 10: "3 for in how many months that is", down to 1 ahead of the month. */
    private static void creditDueIn() {
        WeatherMinistry m = fresh("10 in how many months");
        m.month();
        m.credit(0, 1, 6);
        for (int months = 6; months >= 1; months--) {
            same(7, m.creditOf(0, 2));
            same(months, m.creditOf(0, 3));
            m.month();
        }
        same(NONE, m.creditOf(0, 3));
    }

    private static void whatIsOwed() {
        owesOfNoTown();
        owesNothingOrAll();
        dueInZeroToSixMonths();
        dueOfAllTowns();
    }

    /** Promises 11 and 12: "NONE if there is no such town". */
    private static void owesOfNoTown() {
        WeatherMinistry m = fresh("11 and 12 no such town");
        m.credit(0, 1, 1);
        for (int town : NO_TOWNS) {
            same(NONE, m.owes(town));
            same(NONE, m.owesAgain(town));
        }
    }

    /** Promises 11 and 12: "the hours that a town owes by all its credits", from none to eight. */
    private static void owesNothingOrAll() {
        WeatherMinistry m = fresh("11 and 12 from none to eight credits");
        int owed = 0;
        for (int i = 0; i < 8; i++) {
            same(owed, m.owes(4));
            same(owed, m.owesAgain(4));
            same(0, m.owes(0));
            same(0, m.owesAgain(0));
            m.credit(4, i % 3 + 5, i % 6 + 1);
            owed += i % 3 + 5;
        }
        int[] ending = {5 + 5, 6 + 6, 7, 5, 6, 7};
        for (int hours : ending) {
            same(owed, m.owes(4));
            same(owed, m.owesAgain(4));
            m.month();
            owed -= hours;
        }
        same(0, owed);
        same(0, m.owes(4));
        same(0, m.owesAgain(4));
        WeatherMinistry poor = fresh("11 and 12 arrears are no credit");
        bringToArrears(poor, 0, 17);
        same(0, poor.owes(0));
        same(0, poor.owesAgain(0));
    }

    /** Promise 13: "in how many, 0 to 6". */
    private static void dueInZeroToSixMonths() {
        WeatherMinistry m = fresh("13 in 0 to 6 months");
        for (int months : new int[] {-1, 7, LEAST, GREATEST}) {
            same(BAD, m.due(months));
        }
        m.credit(0, 3, 1);
        m.credit(1, 5, 6);
        int[] due = {0, 3, 0, 0, 0, 0, 5};
        for (int months = 0; months <= 6; months++) {
            same(due[months], m.due(months));
        }
        m.month();
        same(0, m.due(0));
        same(5, m.due(5));
        same(0, m.due(6));
        months(m, 4);
        same(5, m.due(1));
        m.month();
        same(0, m.due(0));
    }

    /** Promise 13: "of all towns". */
    private static void dueOfAllTowns() {
        WeatherMinistry m = fresh("13 of all towns");
        for (int town = 0; town < 5; town++) {
            m.credit(town, 1 << town, 2);
        }
        same(31, m.due(2));
        m.repay(4);
        same(15, m.due(2));
        m.repay(0);
        same(14, m.due(2));
    }

    private static void ways() {
        farOfNoTown();
        farFromNothingToFour();
        drizzleOfNoTown();
        drizzleHours();
        drizzleWhatWouldBeLost();
    }

    /** Promise 14: "NONE if there is no such town, for either". */
    private static void farOfNoTown() {
        WeatherMinistry m = fresh("14 no such town");
        for (int town : NO_TOWNS) {
            same(NONE, m.far(town, 0));
            same(NONE, m.far(4, town));
            same(NONE, m.far(town, town));
        }
    }

    /** Promise 14: "how many at least; ... NOTHING if no treaties lead there". */
    private static void farFromNothingToFour() {
        WeatherMinistry m = fresh("14 from nothing to four treaties");
        for (int town = 1; town < 5; town++) {
            same(NOTHING, m.far(0, town));
            same(NOTHING, m.far(town, 0));
            m.treaty(town - 1, town, true);
            same(town, m.far(0, town));
            same(town, m.far(town, 0));
        }
        m.treaty(1, 4, true);
        same(2, m.far(0, 4));
        m.treaty(0, 4, true);
        same(1, m.far(0, 4));
        same(2, m.far(0, 3));
        WeatherMinistry two = fresh("14 two groups of towns");
        two.treaty(0, 4, true);
        two.treaty(1, 3, true);
        same(NOTHING, two.far(0, 1));
        same(NOTHING, two.far(3, 4));
        same(NOTHING, two.far(2, 0));
        same(1, two.far(3, 1));
    }

    /** Promises 15 and 16: "NONE if there is no such town, for either". */
    private static void drizzleOfNoTown() {
        WeatherMinistry m = fresh("15 and 16 no such town");
        for (int town : NO_TOWNS) {
            for (int hours : new int[] {0, 1, 20, 21}) {
                same(NONE, m.drizzle(town, hours, 0));
                same(NONE, m.drizzle(0, hours, town));
                same(NONE, m.drizzleAgain(town, hours, 0));
                same(NONE, m.drizzleAgain(0, hours, town));
            }
        }
    }

    /** Promises 15 and 16: "how many hours, 1 to 20", and none where no treaties lead. */
    private static void drizzleHours() {
        WeatherMinistry m = fresh("15 and 16 hours");
        m.treaty(0, 1, true);
        for (int hours : NO_HOURS) {
            same(BAD, m.drizzle(0, hours, 0));
            same(BAD, m.drizzle(0, hours, 4));
            same(BAD, m.drizzleAgain(0, hours, 0));
            same(BAD, m.drizzleAgain(0, hours, 4));
        }
        for (int hours = 1; hours <= 20; hours++) {
            same(hours, m.drizzle(0, hours, 0));
            same(hours, m.drizzleAgain(0, hours, 0));
            same(hours / 2, m.drizzle(1, hours, 0));
            same(hours / 2, m.drizzleAgain(1, hours, 0));
            same(0, m.drizzle(0, hours, 4));
            same(0, m.drizzleAgain(0, hours, 4));
        }
        same(0, m.account(4));
        same(1, m.account(15));
    }

    /** Promises 15 and 16: "Returns the hours, what would be lost included". */
    private static void drizzleWhatWouldBeLost() {
        WeatherMinistry m = fresh("15 and 16 what would be lost");
        m.treaty(0, 1, true);
        for (int i = 0; i < 3; i++) {
            m.rain(0, 20);
            m.rain(1, 20);
        }
        same(60, m.townOf(0, 1));
        same(60, m.townOf(1, 1));
        same(20, m.drizzle(0, 20, 0));
        same(10, m.drizzle(0, 20, 1));
        same(20, m.drizzleAgain(0, 20, 0));
        same(10, m.drizzleAgain(0, 20, 1));
    }

    private static void whatWouldBe() {
        wouldOfNoTown();
        wouldInNoSuchMonths();
        wouldOfNoSuchNumber();
        wouldInZeroAndTwentyFourMonths();
        mostOfNoTown();
        mostInNoSuchMonths();
        mostIsTwenty();
        mostUpToSixty();
        mostIsZero();
        mostIsWhatCanJustBePaid();
    }

    /** Promise 17: "NONE if there is no such town". */
    private static void wouldOfNoTown() {
        WeatherMinistry m = fresh("17 no such town");
        for (int town : NO_TOWNS) {
            same(NONE, m.would(town, 0, 0));
            same(NONE, m.would(town, 25, 4));
        }
    }

    /** Promise 17: "how many, 0 to 24". */
    private static void wouldInNoSuchMonths() {
        WeatherMinistry m = fresh("17 no such months");
        for (int months : new int[] {-1, 25, LEAST, GREATEST}) {
            for (int what = 0; what < 4; what++) {
                same(BAD, m.would(0, months, what));
            }
        }
    }

    /** Promise 17: "0 for its sun, 1 for its rain, 2 for its umbrellas, 3 for its arrears". */
    private static void wouldOfNoSuchNumber() {
        WeatherMinistry m = fresh("17 no such number");
        for (int what : new int[] {-1, 4, 5, 6, LEAST, GREATEST}) {
            same(BAD, m.would(0, 0, what));
            same(BAD, m.would(4, 24, what));
        }
        bringToArrears(m, 4, 17);
        int[] now = {1, 33, 5, 17};
        int[] next = {3, 30, 1, 16};
        for (int what = 0; what < 4; what++) {
            same(now[what], m.would(4, 0, what));
            same(next[what], m.would(4, 1, what));
        }
    }

    /** Promise 17: "0 to 24", both of them told. */
    private static void wouldInZeroAndTwentyFourMonths() {
        WeatherMinistry m = fresh("17 in 0 and in 24 months");
        bringToSun(m, 0, 0);
        m.rain(0, 20);
        same(0, m.would(0, 0, 0));
        same(20, m.would(0, 0, 1));
        // 1 to 5, 5, 4 and so on are 60 in 24 months and 4 more; 2 of them are paid in month 6.
        same(60, m.would(0, 24, 0));
        same(0, m.would(0, 24, 1));
        same(5, m.would(0, 24, 2));
        WeatherMinistry lived = fresh("17 as it comes to be");
        bringToSun(lived, 0, 0);
        lived.rain(0, 20);
        for (int months = 0; months <= 24; months++) {
            same(lived.townOf(0, 0), m.would(0, months, 0));
            same(lived.townOf(0, 1), m.would(0, months, 1));
            lived.month();
        }
        same(0, m.account(0));
    }

    /** Promise 18: "NONE if there is no such town". */
    private static void mostOfNoTown() {
        WeatherMinistry m = fresh("18 no such town");
        for (int town : NO_TOWNS) {
            same(NONE, m.most(town, 1));
            same(NONE, m.most(town, 0));
            same(NONE, m.most(town, 7));
        }
    }

    /** Promise 18: "in how many months it would be due, 1 to 6". */
    private static void mostInNoSuchMonths() {
        WeatherMinistry m = fresh("18 no such months");
        for (int months : NO_MONTHS) {
            same(BAD, m.most(0, months));
        }
        bringToArrears(m, 0, 17);
        for (int months : NO_MONTHS) {
            same(BAD, m.most(0, months));
        }
        same(20, m.most(4, 1));
        same(20, m.most(4, 6));
    }

    /** Promise 18: "the most hours that a town could take": 20, for each number of months. */
    private static void mostIsTwenty() {
        WeatherMinistry m = fresh("18 the most is 20");
        for (int months = 1; months <= 6; months++) {
            same(20, m.most(2, months));
        }
        bringToSun(m, 1, 40);
        same(20, m.most(1, 6));
        same("1*20@6 1*10@6", credits(m));
        same(2, m.account(15));
    }

    /** Promise 18: no more than the sun may become, 60. */
    private static void mostUpToSixty() {
        int[] suns = {41, 42, 58, 59, 60};
        for (int sun : suns) {
            WeatherMinistry m = fresh("18 the most beside a sun of " + sun);
            bringToSun(m, 0, sun);
            same(60 - sun, m.most(0, 1));
            same(60 - sun, m.most(0, 5));
        }
    }

    /** Promise 18: "0 if there are none, or a credit would be refused". */
    private static void mostIsZero() {
        WeatherMinistry poor = fresh("18 none with arrears");
        bringToArrears(poor, 0, 1);
        same(0, poor.most(0, 1));
        same(0, poor.most(0, 6));
        WeatherMinistry full = fresh("18 none with 8 credits");
        for (int i = 0; i < 7; i++) {
            full.credit(1, 1, 6);
        }
        same(20, full.most(0, 1));
        full.credit(1, 1, 6);
        same(0, full.most(0, 1));
        WeatherMinistry sunny = fresh("18 none with a sun of 60");
        bringToSun(sunny, 0, 60);
        same(0, sunny.most(0, 1));
        WeatherMinistry owing = fresh("18 none that would be paid");
        bringToLack(owing, 0, 1);
        same(0, owing.most(0, 1));
        same(STATE, owing.reason(0, false));
    }

    /** Promise 18: "so that this credit would be paid in full as it is due": just, and not quite. */
    private static void mostIsWhatCanJustBePaid() {
        // With 19 of 20 hours all 20 more are left to be paid, with the 1 hour of the month 1; with
        // less, what is taken goes for the other credit, and only that 1 hour is left.
        int[] most = {20, 1, 1, 1};
        for (int lacking = 1; lacking <= 4; lacking++) {
            WeatherMinistry m = fresh("18 just paid, though " + lacking + " lack for another one");
            bringToLack(m, 0, lacking);
            same(most[lacking - 1], m.most(0, 2));
            m.credit(0, most[lacking - 1], 2);
            m.month();
            same(most[lacking - 1], m.townOf(0, 0));
            same(0, m.month());
        }
        WeatherMinistry more = fresh("18 an hour more would not be paid");
        bringToLack(more, 0, 2);
        more.credit(0, 2, 2);
        same(0, more.month());
        same(1, more.month());
        WeatherMinistry behind = fresh("18 paid behind the others of its month");
        behind.credit(0, 5, 2);
        bringToLack(behind, 0, 4);
        // 21 hours, of which 20 are paid in the month 1, and 1 of sun then: 5 are due ahead.
        same(21, behind.townOf(0, 0));
        same(0, behind.most(0, 2));
        behind.credit(0, 3, 6);
        same(20, behind.most(0, 2));
    }

    private static void orders() {
        rankedOfNoPlace();
        rankedOfLikeTowns();
        nextOfNoPlace();
        nextOfLikeCredits();
    }

    /** Promise 19: "the place in this order, from 0", "NONE if there is no such place". */
    private static void rankedOfNoPlace() {
        WeatherMinistry m = fresh("19 no such place");
        for (int place : new int[] {-1, 5, LEAST, GREATEST}) {
            same(NONE, m.ranked(place));
        }
        same(0, m.ranked(0));
        same(4, m.ranked(4));
    }

    /** Promise 19: "the most first, of several the one with less sun, then the lowest". */
    private static void rankedOfLikeTowns() {
        WeatherMinistry m = fresh("19 like towns");
        for (int place = 0; place < 5; place++) {
            same(place, m.ranked(place));
        }
        bringToLack(m, 3, 2);
        bringToLack(m, 4, 3);
        m.credit(0, 1, 6);
        m.buy(2);
        m.month();
        // Arrears: 2 in town 4, 1 in town 3; then the sun: 7, 11 and 12.
        order(m, 4, 3, 2, 1, 0);
        m.month();
        // Town 4 has arrears of 1, and 3 of 0; then the sun: 3, 9, 13 and 14.
        order(m, 4, 3, 2, 1, 0);
        WeatherMinistry even = fresh("19 like arrears and like sun");
        bringToLack(even, 4, 5);
        bringToLack(even, 1, 5);
        even.month();
        order(even, 1, 4, 0, 2, 3);
        WeatherMinistry less = fresh("19 like arrears and less sun");
        bringToLack(less, 4, 5);
        bringToLack(less, 1, 8);
        less.month();
        less.bail(1, 1);
        less.credit(0, 1, 1);
        same(less.townOf(1, 3), less.townOf(4, 3));
        order(less, 1, 4, 2, 3, 0);
    }

    /** Promise 20: "NONE if there is no such place". */
    private static void nextOfNoPlace() {
        WeatherMinistry m = fresh("20 no such place");
        for (int i = 0; i < 8; i++) {
            same(NONE, m.next(i));
            m.credit(0, 8 - i, i % 6 + 1);
        }
        for (int place : new int[] {-1, 8, LEAST, GREATEST}) {
            same(NONE, m.next(place));
        }
        same(0, m.next(0));
        same(5, m.next(7));
    }

    /** Promise 20: "the soonest first, of several the one of more hours, then the lowest number". */
    private static void nextOfLikeCredits() {
        WeatherMinistry m = fresh("20 like credits");
        m.credit(0, 5, 2);
        m.credit(1, 5, 2);
        m.credit(2, 6, 2);
        m.credit(3, 20, 3);
        m.credit(4, 1, 1);
        m.credit(0, 5, 2);
        int[] due = {4, 2, 0, 1, 5, 3};
        for (int place = 0; place < due.length; place++) {
            same(due[place], m.next(place));
        }
    }

    private static void sums() {
        countedFromTheFirstOn();
        meanSunAtItsEnds();
        shareAtItsEnds();
        accountOfNoSuchNumber();
        accountOfEach();
    }

    /** Promise 21: it is so whether towns have nothing, all they can have, or lost some. */
    private static void countedFromTheFirstOn() {
        WeatherMinistry m = fresh("21 all is accounted for");
        same(true, m.isCounted());
        bringToSun(m, 0, 0);
        same(true, m.isCounted());
        bringToArrears(m, 1, 17);
        m.bail(1, 5);
        same(true, m.isCounted());
        for (int months = 0; months < 30; months++) {
            m.month();
            same(true, m.isCounted());
        }
        makeRow(m);
        same(true, m.isCounted());
        m.treaty(0, 4, true);
        same(true, m.isCounted());
        same(300, m.account(3));
    }

    /** Promise 22: "the sum and the number converted to double", from 0 to 60. */
    private static void meanSunAtItsEnds() {
        WeatherMinistry m = fresh("22 from 0 to 60");
        same(10.0, m.meanSun());
        for (int town = 0; town < 5; town++) {
            bringToSun(m, town, 0);
            same((double) (10 * (4 - town)) / (double) 5, m.meanSun());
        }
        same(0.0, m.meanSun());
        m.credit(0, 1, 6);
        same((double) 1 / (double) 5, m.meanSun());
        m.credit(0, 2, 6);
        same((double) 3 / (double) 5, m.meanSun());
        WeatherMinistry full = fresh("22 at 60");
        months(full, 30);
        same(60.0, full.meanSun());
    }

    /** Promise 23: "0.0f if none ended so", and from 0 to 1. */
    private static void shareAtItsEnds() {
        WeatherMinistry m = fresh("23 none ended so");
        same(0.0f, m.paidShare());
        m.credit(0, 1, 6);
        same(0.0f, m.paidShare());
        m.repay(0);
        same(0.0f, m.paidShare());
        WeatherMinistry none = fresh("23 none were paid");
        bringToArrears(none, 0, 1);
        same(0.0f, none.paidShare());
        none.credit(1, 1, 1);
        none.credit(2, 1, 1);
        none.month();
        same((float) 2 / (float) 3, none.paidShare());
        WeatherMinistry all = fresh("23 all were paid");
        all.credit(0, 1, 1);
        all.month();
        same(1.0f, all.paidShare());
    }

    /** Promise 24: "0 for the month, ... 15 for the changes that can be undone", and BAD beside. */
    private static void accountOfNoSuchNumber() {
        WeatherMinistry m = fresh("24 no such account");
        for (int what : new int[] {-1, 16, LEAST, GREATEST}) {
            same(BAD, m.account(what));
        }
        int[] first = {0, 0, 0, 50, 0, 0, 10, 0, 0, 0, 0, 0, 0, 0, 0, 0};
        for (int what = 0; what < first.length; what++) {
            same(first[what], m.account(what));
        }
    }

    /** Promise 24: each account, and what it leaves out. */
    private static void accountOfEach() {
        WeatherMinistry m = fresh("24 each account");
        m.treaty(0, 1, true);
        bringToSun(m, 2, 60);
        bringToArrears(m, 0, 17);
        type(m, "mon");
        // Town 2 lost the hour of month 1; half of the 36 hours drizzled on, and is left out of 11.
        int[] due = {1, 3, 1, 60 + 1 + 3 * 11, 33 + 15, 17, 13, 50 + 20 + 4, 2, 0, 4, 36, 1, 0, 3, 8};
        for (int what = 0; what < due.length; what++) {
            same(due[what], m.account(what));
        }
        m.bail(0, 5);
        same(4, m.account(10));
        same(8, m.account(6));
        m.month();
        same(1, m.account(9));
        same(74 + 4 * 2, m.account(7));
        m.repay(2);
        same(12, m.account(8));
        same(1, m.account(12));
    }

    private static void lines() {
        writeOfNoTown();
        writeWithAndWithoutArrears();
        writeCreditsFromNoneToEight();
        writtenOfNoIndex();
    }

    /** Promise 25: "NONE if there is no such town"; the line before stays. */
    private static void writeOfNoTown() {
        WeatherMinistry m = fresh("25 no such town");
        for (int town : NO_TOWNS) {
            same(NONE, m.write(town));
        }
        same(NONE, m.written(0));
        same(9, m.write(4));
        for (int town : NO_TOWNS) {
            same(NONE, m.write(town));
        }
        same("4:10s0r2u", line(m, 9));
        same(NONE, m.written(9));
    }

    /** Promise 25: "and, if it has arrears, these and "a"". */
    private static void writeWithAndWithoutArrears() {
        WeatherMinistry m = fresh("25 with and without arrears");
        bringToArrears(m, 3, 1);
        same(10, m.write(3));
        same("3:1s1r4u1a", line(m, 10));
        m.bail(3, 4);
        same(8, m.write(3));
        same("3:1s1r0u", line(m, 8));
        same(NONE, m.written(8));
        WeatherMinistry rich = fresh("25 numbers of two digits");
        bringToSun(rich, 1, 60);
        for (int i = 0; i < 3; i++) {
            rich.rain(1, 20);
        }
        same(10, rich.write(1));
        same("1:60s60r2u", line(rich, 10));
    }

    /** Promise 26: "for each ..., with a blank between two", from none of them to eight. */
    private static void writeCreditsFromNoneToEight() {
        WeatherMinistry m = fresh("26 from none to eight");
        m.write(0);
        same(0, m.writeCredits());
        same(NONE, m.written(0));
        m.credit(0, 1, 1);
        same(5, m.writeCredits());
        same("0*1@1", line(m, 5));
        m.credit(4, 20, 6);
        same(12, m.writeCredits());
        same("0*1@1 4*20@6", line(m, 12));
        WeatherMinistry late = fresh("26 eight of many characters");
        months(late, 100);
        StringBuilder due = new StringBuilder();
        for (int i = 0; i < 8; i++) {
            late.buy(i % 5);
            late.buy(i % 5);
            late.buy(i % 5);
            late.credit(i % 5, 10 + i % 2, 6);
            due.append(i > 0 ? " " : "").append(i % 5).append('*').append(10 + i % 2).append("@106");
        }
        same(8 * 8 + 7, late.writeCredits());
        same(due.toString(), line(late, 71));
        same(NONE, late.written(71));
        same(9, late.write(0));
        same(NONE, late.written(9));
    }

    /** Promise 27: "NONE if there is none". */
    private static void writtenOfNoIndex() {
        WeatherMinistry m = fresh("27 no such index");
        for (int index : new int[] {0, -1, 1, LEAST, GREATEST}) {
            same(NONE, m.written(index));
        }
        same(9, m.write(0));
        same((int) '0', m.written(0));
        same((int) 'u', m.written(8));
        for (int index : new int[] {-1, 9, LEAST, GREATEST}) {
            same(NONE, m.written(index));
        }
    }

    private static void inputs() {
        appendCodes();
        appendUpToSixty();
        readReturnsTheCommands();
        readEmptiesTheInput();
        faultKeptLast();
        reasonDepths();
        reasonOfNothing();
    }

    /** Promise 28: "the character, with a code from 32 to 126". */
    private static void appendCodes() {
        WeatherMinistry m = fresh("28 codes from 32 to 126");
        int[] wrong = {0, 9, 10, 31, 127, 128, 255, 256, 0x8000, 0xffff};
        for (int code : wrong) {
            same(BAD, m.append((char) code));
        }
        same(0, m.account(14));
        same(1, m.append((char) 32));
        same(2, m.append((char) 126));
        for (int code = 33; code < 91; code++) {
            same(code - 30, m.append((char) code));
        }
        WeatherMinistry rest = fresh("28 the other codes");
        for (int code = 91; code < 127; code++) {
            same(code - 90, rest.append((char) code));
        }
    }

    /** Promise 28: "FULL if there are 60". */
    private static void appendUpToSixty() {
        WeatherMinistry m = fresh("28 up to 60");
        for (int length = 1; length <= 60; length++) {
            same(length, m.append('m'));
        }
        same(FULL, m.append('m'));
        same(BAD, m.append((char) 31));
        same(BAD, m.append((char) 127));
        same(60, m.account(14));
        same(BAD, m.read());
        same(1, m.fault());
        same(1, m.append('m'));
    }

    /** Promise 29: "the number of commands; BAD, where the fault position is kept; REFUSED for 9". */
    private static void readReturnsTheCommands() {
        WeatherMinistry m = fresh("29 what is returned");
        same(1, read(m, "month"));
        same(10, read(m, "month;month;month;month;month;month;month;month;month;month"));
        same(11, m.account(0));
        same(2, m.account(15));
        same(STATE, m.fault());
        same(STATE, m.reason(0, false));
        same(BAD, read(m, "month;mouth"));
        same(8, m.fault());
        same(STATE, m.reason(0, false));
        same(REFUSED, read(m, "month;end 2 1"));
        same(8, m.fault());
        same(9, m.reason(0, false));
        same(1, m.reason(0, true));
        same(11, m.account(0));
        same(2, m.account(15));
    }

    /** Promise 29: "The input is empty then, whatever is returned." */
    private static void readEmptiesTheInput() {
        WeatherMinistry m = fresh("29 the input is empty then");
        same(BAD, m.read());
        same(0, m.account(14));
        same(1, read(m, "month"));
        same(0, m.account(14));
        same(BAD, read(m, "months"));
        same(0, m.account(14));
        same(REFUSED, read(m, "end 0 1"));
        same(0, m.account(14));
        same(REFUSED, read(m, "buy 9"));
        same(0, m.account(14));
        same(BAD, m.read());
        same(0, m.fault());
        same(1, read(m, "month"));
        same(2, m.account(0));
    }

    /** Promise 30: "the fault position that was kept last", "STATE if none was kept". */
    private static void faultKeptLast() {
        WeatherMinistry m = fresh("30 the fault that was kept last");
        same(STATE, m.fault());
        read(m, "month");
        read(m, "buy 9");
        read(m, "end 0 1");
        m.credit(0, 0, 0);
        same(STATE, m.fault());
        same(BAD, m.read());
        same(0, m.fault());
        read(m, "month;buy x");
        same(10, m.fault());
        read(m, "month");
        read(m, "buy 9");
        m.undo();
        same(10, m.fault());
        read(m, "mouth");
        same(2, m.fault());
    }

    /** Promise 31: "BAD if the depth is not from 0 to 1; STATE if nothing was refused". */
    private static void reasonDepths() {
        WeatherMinistry m = fresh("31 depths");
        for (int round = 0; round < 2; round++) {
            for (int depth : new int[] {-1, 2, LEAST, GREATEST}) {
                same(BAD, m.reason(depth, false));
                same(BAD, m.reason(depth, true));
            }
            same(round == 0 ? STATE : 8, m.reason(0, false));
            same(round == 0 ? STATE : 2, m.reason(0, true));
            same(round == 0 ? STATE : NOTHING, m.reason(1, false));
            same(round == 0 ? STATE : NOTHING, m.reason(1, true));
            m.treaty(2, 2, true);
        }
    }

    /** Promise 31: "NOTHING if nothing lies there": a number of 0 is not nothing. */
    private static void reasonOfNothing() {
        WeatherMinistry m = fresh("31 nothing lies there");
        readRefused(m, "end 0 1", 0, 7, 0);
        readRefused(m, "treaty 0 0", 0, 8, 0);
        readRefused(m, "repay 0", 0, NOTHING, NOTHING);
        readRefused(m, "treaty 0 0", 0, 8, 0);
        refused(m, m.treaty(0, 1, false), 7, 0);
    }

    private static void backAgain() {
        undoOfNothing();
        undoCounts();
        everythingIsUndoneAndRestored();
        saveReturnsTheMonth();
        saveInPlaceOfWhatWasSaved();
        restoreOfNothing();
        restoredStaysSaved();
        nothingCanBeUndoneThen();
        undoIsNoChange();
    }

    /** Promise 32: "STATE if there is none". */
    private static void undoOfNothing() {
        WeatherMinistry m = fresh("32 nothing to undo");
        same(STATE, m.undo());
        m.buy(9);
        m.treaty(0, 0, true);
        read(m, "buy 9");
        read(m, "buy");
        m.save();
        same(STATE, m.undo());
        m.month();
        same(0, m.undo());
        same(STATE, m.undo());
        same(0, m.account(0));
    }

    /** Promise 32: "Returns the number of changes that can still be undone", 7 at most. */
    private static void undoCounts() {
        WeatherMinistry m = fresh("32 how many are left");
        months(m, 20);
        for (int left = 7; left >= 0; left--) {
            same(left, m.undo());
            same(12 + left, m.account(0));
        }
        same(STATE, m.undo());
        same(12, m.account(0));
    }

    /** A month changes each account of it, and a town buys: all of this is as it was again. */
    private static void everythingIsUndoneAndRestored() {
        WeatherMinistry m = fresh("32 and 34 everything is undone and restored");
        bringToArrears(m, 0, 17);
        m.bail(0, 5);
        m.credit(1, 20, 1);
        buyAll(m, 1, 7);
        m.credit(2, 1, 1);
        m.save();
        String before = picture(m);
        int[] accounts = new int[14];
        for (int what = 7; what < 14; what++) {
            accounts[what] = m.account(what);
        }
        same(1, m.month());
        int[] more = {0, 0, 0, 0, 0, 0, 0, 10, 4, 1, 4, 34, 2, 1};
        for (int what = 7; what < 14; what++) {
            same(accounts[what] + more[what], m.account(what));
        }
        same(7, m.undo());
        same(before, picture(m));
        m.buy(2);
        same(7, m.undo());
        same(before, picture(m));
        m.month();
        m.buy(2);
        m.restore();
        same(before, picture(m));
    }

    /** Promise 33: "Returns the month", and changes nothing. */
    private static void saveReturnsTheMonth() {
        WeatherMinistry m = fresh("33 the month");
        same(0, m.save());
        m.month();
        same(1, m.save());
        months(m, 12);
        String before = picture(m) + m.account(15);
        same(13, m.save());
        same(before, picture(m) + m.account(15));
        same(7, m.undo());
        same(12, m.save());
    }

    /** Promise 33: "in place of what was saved before". */
    private static void saveInPlaceOfWhatWasSaved() {
        WeatherMinistry m = fresh("33 in place of what was saved");
        m.treaty(0, 1, true);
        m.credit(4, 20, 6);
        m.save();
        m.treaty(0, 1, false);
        m.repay(0);
        m.month();
        String later = picture(m);
        m.save();
        months(m, 2);
        same(1, m.restore());
        same(later, picture(m));
        same(NOTHING, m.far(0, 1));
    }

    /** Promise 34: "STATE if nothing was saved". */
    private static void restoreOfNothing() {
        WeatherMinistry m = fresh("34 nothing was saved");
        same(STATE, m.restore());
        m.month();
        same(STATE, m.restore());
        same(1, m.account(0));
        same(1, m.account(15));
        same(0, m.undo());
    }

    /** Promise 34: "Restores what was saved, which stays saved." */
    private static void restoredStaysSaved() {
        WeatherMinistry m = fresh("34 what was saved stays saved");
        makeRow(m);
        bringToArrears(m, 2, 17);
        m.credit(0, 7, 3);
        m.save();
        String saved = picture(m);
        for (int round = 0; round < 3; round++) {
            m.treaty(1, 2, false);
            m.bail(2, 1);
            m.rain(4, 20);
            m.buy(0);
            m.repay(0);
            m.month();
            same(1, m.restore());
            same(saved, picture(m));
        }
        same(1, m.restore());
        same(saved, picture(m));
    }

    /** Promise 34: "Nothing can be undone then." */
    private static void nothingCanBeUndoneThen() {
        WeatherMinistry m = fresh("34 nothing can be undone then");
        months(m, 9);
        m.save();
        same(8, m.account(15));
        same(9, m.restore());
        same(0, m.account(15));
        same(STATE, m.undo());
        same(9, m.account(0));
        m.month();
        m.month();
        same(2, m.account(15));
        same(1, m.undo());
        same(0, m.undo());
        same(STATE, m.undo());
        same(9, m.account(0));
    }

    /** Promise 32 and the terms: what was undone can't be undone again, nor done once more. */
    private static void undoIsNoChange() {
        WeatherMinistry m = fresh("32 undo is no change");
        m.month();
        m.buy(0);
        same(1, m.undo());
        same(0, m.undo());
        same(STATE, m.undo());
        same(0, m.account(0));
        same(2, m.townOf(0, 2));
        same(3, m.buy(0));
        same(1, m.account(15));
    }
}
