/** Each sentence that names a boundary, of the terms on changes and doubts, has a test of its own. */
public final class ChangesTest extends Checks {
    private ChangesTest() {
    }

    public static void main(String[] args) {
        onChanges();
        inDoubt();
        end();
    }

    private static void onChanges() {
        whatIsAChange();
        whatIsNoChange();
        nothingIsOtherwiseThen();
        latestEight();
        latestOneFirst();
        aroundTheRing();
        neitherUndoneNorSaved();
        errorsChangeNothing();
        firstErrorThatApplies();
    }

    /** "The changes are the calls of treaty, credit, repay, rain, bail, buy, month and read ..." */
    private static void whatIsAChange() {
        WeatherMinistry m = fresh("what is a change");
        m.treaty(0, 1, true);
        same(1, m.account(15));
        m.credit(0, 20, 1);
        same(2, m.account(15));
        m.repay(0);
        same(3, m.account(15));
        m.rain(0, 1);
        same(4, m.account(15));
        m.buy(0);
        same(5, m.account(15));
        m.month();
        same(6, m.account(15));
        read(m, "month;month;month");
        same(7, m.account(15));
        WeatherMinistry poor = fresh("bail is a change");
        bringToArrears(poor, 0, 17);
        poor.save();
        poor.restore();
        same(0, poor.account(15));
        poor.bail(0, 1);
        same(1, poor.account(15));
        same(0, poor.undo());
        same("0:1s33r5u17a", town(poor, 0));
    }

    /** "that return no error": neither errors nor questions are changes. */
    private static void whatIsNoChange() {
        WeatherMinistry m = fresh("what is no change");
        m.treaty(0, 1, true);
        m.treaty(0, 1, true);
        m.treaty(0, 0, true);
        m.treaty(0, 5, true);
        m.credit(0, 0, 1);
        m.repay(0);
        m.rain(0, 21);
        m.bail(0, 1);
        m.buy(5);
        m.append('m');
        m.read();
        read(m, "buy 9");
        m.save();
        m.write(0);
        m.writeCredits();
        m.would(0, 24, 0);
        m.most(0, 6);
        m.isCounted();
        m.drizzle(0, 20, 1);
        same(1, m.account(15));
        same(0, m.undo());
        same(STATE, m.undo());
        same(0, m.account(15));
    }

    /** "also if nothing is otherwise then" */
    private static void nothingIsOtherwiseThen() {
        WeatherMinistry m = fresh("also if nothing is otherwise");
        for (int i = 0; i < 3; i++) {
            m.rain(0, 20);
        }
        String before = picture(m);
        m.rain(0, 20);
        same(before, picture(m));
        same(4, m.account(15));
        same(2, read(m, "treaty 0 1;end 0 1"));
        same(before, picture(m));
        same(5, m.account(15));
        same(4, m.undo());
        same(3, m.undo());
        same(before, picture(m));
        same(2, m.undo());
        same(40, m.townOf(0, 1));
    }

    /** "The latest 8 that were not undone can be undone" */
    private static void latestEight() {
        for (int changes = 7; changes <= 10; changes++) {
            WeatherMinistry m = fresh("undo of " + changes + " changes");
            for (int i = 1; i <= changes; i++) {
                m.rain(i % 5, i);
                same(Math.min(8, i), m.account(15));
            }
            int all = Math.min(8, changes);
            for (int left = all - 1; left >= 0; left--) {
                same(left, m.undo());
            }
            same(STATE, m.undo());
            int lost = changes - all;
            same(lost * (lost + 1) / 2, m.account(4));
        }
    }

    /** "the latest one first" */
    private static void latestOneFirst() {
        WeatherMinistry m = fresh("the latest one first");
        m.rain(0, 1);
        m.rain(0, 2);
        m.buy(0);
        m.rain(0, 4);
        same("0:6s7r3u", town(m, 0));
        m.undo();
        same("0:6s3r3u", town(m, 0));
        m.undo();
        same("0:10s3r2u", town(m, 0));
        m.rain(0, 8);
        same("0:10s11r2u", town(m, 0));
        same(2, m.undo());
        same("0:10s3r2u", town(m, 0));
        m.undo();
        same("0:10s1r2u", town(m, 0));
        same(0, m.undo());
        same("0:10s0r2u", town(m, 0));
    }

    /** Changes and their undoing by turns, so often that each kept one is kept in turn. */
    private static void aroundTheRing() {
        WeatherMinistry m = fresh("changes and undoing by turns");
        int month = 0;
        int kept = 0;
        for (int round = 1; round <= 20; round++) {
            int forth = round % 5 + 4;
            for (int i = 0; i < forth; i++) {
                m.month();
                month++;
                kept = Math.min(8, kept + 1);
            }
            int back = Math.min(kept, round % 4 + 2);
            for (int i = 0; i < back; i++) {
                month--;
                kept--;
                same(kept, m.undo());
                same(month, m.account(0));
            }
        }
        same(kept, m.account(15));
    }

    /** "The input, the fault position, the latest reason and the line are neither undone nor saved." */
    private static void neitherUndoneNorSaved() {
        WeatherMinistry m = fresh("what is neither undone nor saved");
        m.month();
        m.save();
        m.month();
        read(m, "mooo");
        same(REFUSED, read(m, "month;treaty 4 4"));
        type(m, "buy");
        m.write(3);
        String notes = notes(m);
        same("input 3, fault 2, reason 9 1, behind it 8 4", notes);
        m.undo();
        same(notes, notes(m));
        same("3:13s0r2u", line(m, 9));
        m.restore();
        same(notes, notes(m));
        same("3:13s0r2u", line(m, 9));
        same(NONE, m.written(9));
        same(1, m.account(0));
        m.append(' ');
        m.append('0');
        same(1, m.read());
        same(3, m.townOf(0, 2));
    }

    /** "A call that returns an error changes nothing, but where it is told." */
    private static void errorsChangeNothing() {
        WeatherMinistry m = fresh("errors change nothing");
        m.treaty(0, 1, true);
        m.credit(2, 20, 2);
        bringToArrears(m, 3, 17);
        m.treaty(2, 2, true);
        read(m, "x");
        type(m, "mo");
        String before = picture(m) + notes(m) + m.account(15);
        m.write(3);
        int[] answers = {m.treaty(5, 0, true), m.treaty(0, -1, false), m.credit(5, 1, 1),
                m.credit(0, 0, 1), m.credit(0, 21, 1), m.credit(0, 1, 0), m.credit(0, 1, 7),
                m.repay(-1), m.repay(8), m.rain(5, 1), m.rain(0, 0), m.rain(0, 21), m.bail(5, 1),
                m.bail(3, 0), m.bail(3, 10), m.buy(5), m.buy(-1), m.append((char) 31),
                m.append((char) 127), m.write(5), m.would(5, 0, 0), m.would(0, 25, 0),
                m.most(0, 7), m.restore(), m.account(16), m.townOf(0, 7), m.due(7),
                m.written(99), m.ranked(5), m.next(8), m.reason(2, true)};
        for (int answer : answers) {
            same(true, answer < 0);
        }
        same("3:1s33r5u17a", line(m, 12));
        same(before, picture(m) + notes(m) + m.account(15));
        refusalsChangeTheReasonAlone();
    }

    private static void refusalsChangeTheReasonAlone() {
        WeatherMinistry m = fresh("refusals change the reason alone");
        m.treaty(0, 1, true);
        bringToSun(m, 0, 60);
        bringToArrears(m, 3, 17);
        String before = picture(m) + m.account(15);
        refused(m, m.treaty(1, 0, true), 7, 1);
        refused(m, m.treaty(1, 1, true), 8, 1);
        refused(m, m.credit(3, 1, 1), 2, 17);
        refused(m, m.credit(0, 1, 1), 3, 0);
        refused(m, m.bail(0, 1), 5, 2);
        refused(m, m.bail(3, 6), 6, 5);
        refused(m, m.buy(3), 4, 1);
        same(before, picture(m) + m.account(15));
    }

    /** "If several errors are named for a method, the first of them that applies is returned." */
    private static void firstErrorThatApplies() {
        WeatherMinistry m = fresh("the first error that applies");
        bringToArrears(m, 3, 17);
        same(NONE, m.treaty(5, 5, true));
        same(NONE, m.credit(5, 0, 7));
        same(BAD, m.credit(3, 21, 1));
        same(BAD, m.credit(3, 1, 7));
        same(NONE, m.rain(-1, 0));
        same(NONE, m.bail(5, 0));
        same(BAD, m.bail(0, 10));
        same(BAD, m.bail(3, 10));
        same(NONE, m.townOf(5, 7));
        same(NONE, m.creditOf(0, 4));
        same(NONE, m.drizzle(5, 0, 0));
        same(NONE, m.drizzle(0, 0, 5));
        same(NONE, m.drizzleAgain(5, 0, 0));
        same(NONE, m.drizzleAgain(0, 0, 5));
        same(NONE, m.would(5, 25, 4));
        same(NONE, m.most(5, 0));
        same(BAD, m.most(3, 0));
        for (int i = 0; i < 60; i++) {
            m.append('x');
        }
        same(BAD, m.append((char) 127));
        same(FULL, m.append('x'));
        same(BAD, m.reason(2, false));
        same(STATE, m.reason(1, false));
    }

    private static void inDoubt() {
        numbersAheadOfReasons();
        townOrCreditThatThereIsNot();
        dueAsTheMonthBegins();
        rainAheadOfTheNextCredit();
        hailedSunIsGone();
        whatWouldBeIsOfMonthsAlone();
        allUmbrellasAreGone();
        zeroTreatiesFromItself();
        mostAlsoIfFewerWouldNotBePaid();
        rainedBackCountsAsItFalls();
    }

    /** "Numbers of a command are looked at ahead of its reasons." */
    private static void numbersAheadOfReasons() {
        WeatherMinistry m = fresh("numbers ahead of reasons");
        bringToArrears(m, 3, 17);
        readRefused(m, "credit 3 0 1", 0, NOTHING, NOTHING);
        readRefused(m, "credit 3 1 7", 0, NOTHING, NOTHING);
        readRefused(m, "bail 0 0", 0, NOTHING, NOTHING);
        readRefused(m, "treaty 5 5", 0, NOTHING, NOTHING);
        readRefused(m, "end 6 6", 0, NOTHING, NOTHING);
        // But as the command's turn comes: an earlier one is refused ahead of it.
        readRefused(m, "treaty 1 1;buy 9", 0, 8, 1);
        readRefused(m, "buy 9;treaty 1 1", 0, NOTHING, NOTHING);
    }

    /** "A town or a credit that there is not, in a command, is a number that is out of range." */
    private static void townOrCreditThatThereIsNot() {
        WeatherMinistry m = fresh("a town or a credit that there is not");
        m.credit(0, 1, 1);
        for (int town = 5; town <= 9; town++) {
            readRefused(m, "buy " + town, 0, NOTHING, NOTHING);
        }
        readRefused(m, "repay 1", 0, NOTHING, NOTHING);
        readRefused(m, "repay 9", 0, NOTHING, NOTHING);
        readRefused(m, "repay 0;repay 0", 1, NOTHING, NOTHING);
        readRefused(m, "month;repay 0", 1, NOTHING, NOTHING);
        same(2, read(m, "credit 0 1 1;repay 1"));
        same(1, read(m, "buy 4"));
    }

    /** "Credits that are due in a month are those that are due then as it begins" */
    private static void dueAsTheMonthBegins() {
        WeatherMinistry m = fresh("due as the month begins");
        m.credit(0, 3, 2);
        same(0, m.due(0));
        m.month();
        same(0, m.account(12));
        same(3, m.due(1));
        same(0, m.credit(1, 4, 1) - 1);
        same(7, m.due(1));
        same(0, m.due(0));
        m.month();
        same(2, m.account(12));
        same(0, m.account(1));
    }

    /** "rain that comes by one of them comes ahead of the next one" */
    private static void rainAheadOfTheNextCredit() {
        WeatherMinistry m = fresh("rain ahead of the next credit");
        m.treaty(0, 1, true);
        m.credit(0, 20, 1);
        m.credit(1, 20, 1);
        buyAll(m, 0, 7);
        buyAll(m, 1, 7);
        for (int i = 0; i < 2; i++) {
            m.rain(0, 20);
        }
        // 40 and 20 hours; then 36 and 18 come by the first credit, 18 and 36 by the second.
        same(2, m.month());
        same(57, m.townOf(0, 1));
        same(57, m.townOf(1, 1));
        same(72, m.account(11));
    }

    /** "An hour of sun that hail takes is gone." */
    private static void hailedSunIsGone() {
        WeatherMinistry m = fresh("sun that hail takes is gone");
        bringToArrears(m, 0, 17);
        m.bail(0, 5);
        int all = m.account(3);
        int paid = m.account(8);
        m.month();
        same(all - 1 + 5 * 2, m.account(3));
        same(1, m.account(9));
        same(paid, m.account(8));
        same(true, m.isCounted());
    }

    /** "What would be is told of months alone." */
    private static void whatWouldBeIsOfMonthsAlone() {
        WeatherMinistry m = fresh("what would be is of months alone");
        m.credit(0, 20, 2);
        buyAll(m, 0, 7);
        type(m, "buy 0");
        String before = picture(m) + m.account(15) + m.account(14);
        same(3, m.would(0, 1, 0));
        same(2, m.would(0, 2, 0));
        same(16, m.would(0, 2, 3));
        same(5, m.would(0, 2, 2));
        same(31, m.would(0, 2, 1));
        same(before, picture(m) + m.account(15) + m.account(14));
        same(2, m.townOf(0, 0));
    }

    /** "All umbrellas that are told as bail are gone, also those that were not needed." */
    private static void allUmbrellasAreGone() {
        WeatherMinistry m = fresh("umbrellas that were not needed");
        bringToArrears(m, 0, 1);
        same(4, m.townOf(0, 2));
        same(0, m.bail(0, 3));
        same(1, m.townOf(0, 2));
        same(0, m.townOf(0, 3));
        WeatherMinistry nine = fresh("nine umbrellas as bail");
        bringToNineWithArrears(nine);
        same(0, nine.bail(0, 9));
        same("0:1s7r0u", town(nine, 0));
    }

    /** In the month 4, 43 hours less 28 for umbrellas: 5 of 20 lack, and one umbrella breaks. */
    private static void bringToNineWithArrears(WeatherMinistry m) {
        months(m, 4);
        m.credit(0, 20, 1);
        m.credit(0, 3, 6);
        buyAll(m, 0, 7);
        same(1, m.month());
        same("0:5s7r8u4a", town(m, 0));
        same(9, m.buy(0));
    }

    /** "A town is 0 treaties away from itself." */
    private static void zeroTreatiesFromItself() {
        WeatherMinistry m = fresh("0 treaties away from itself");
        for (int town = 0; town < 5; town++) {
            same(0, m.far(town, town));
            same(0, m.townOf(town, 6));
            same(20, m.drizzle(town, 20, town));
            same(20, m.drizzleAgain(town, 20, town));
        }
        m.treaty(0, 1, true);
        m.treaty(1, 2, true);
        m.treaty(2, 0, true);
        same(0, m.far(0, 0));
        same(2, m.townOf(0, 6));
        same(20, m.drizzle(0, 20, 0));
        same(20, m.drizzleAgain(0, 20, 0));
    }

    /** A town for which 9 hours due in 5 months would be paid in full, but neither 8 nor 10. */
    private static WeatherMinistry poorTown() {
        WeatherMinistry m = fresh("the most credit, also if fewer hours would not be paid");
        m.buy(0);
        m.credit(0, 19, 1);
        m.buy(0);
        m.credit(0, 7, 4);
        buyAll(m, 0, 3);
        m.month();
        same("0:1s3r6u2a", town(m, 0));
        m.bail(0, 4);
        m.credit(0, 16, 1);
        buyAll(m, 0, 4);
        same("0:1s3r6u", town(m, 0));
        return m;
    }

    /** "The most credit is told also if fewer hours would not be paid in full." */
    private static void mostAlsoIfFewerWouldNotBePaid() {
        same(9, poorTown().most(0, 5));
        for (int hours = 7; hours <= 10; hours++) {
            WeatherMinistry m = poorTown();
            m.credit(0, hours, 5);
            months(m, 4);
            boolean isPaid = m.townOf(0, 0) >= hours;
            same(hours == 7 || hours == 9, isPaid);
            same(isPaid ? 0 : 1, m.month());
        }
    }

    /** "What is rained back counts as it falls there, also if some is lost." */
    private static void rainedBackCountsAsItFalls() {
        WeatherMinistry m = fresh("rained back, though some is lost");
        m.treaty(0, 1, true);
        bringToLack(m, 0, 18);
        for (int i = 0; i < 3; i++) {
            m.rain(0, 20);
        }
        same(60, m.townOf(0, 1));
        m.month();
        same(57, m.townOf(0, 1));
        same(36, m.account(11));
    }
}
