/** For each promise of the document: ordinary inputs, the edges that it names, and wrong inputs. */
public final class PromisesTest extends Checks {
    private PromisesTest() {
    }

    public static void main(String[] args) {
        constants();
        newObject();
        treaty();
        credit();
        repay();
        rain();
        bail();
        buy();
        month();
        hail();
        townOf();
        creditOf();
        owes();
        due();
        far();
        drizzle();
        would();
        most();
        ranked();
        next();
        isCounted();
        means();
        account();
        write();
        writeCredits();
        append();
        read();
        readRanges();
        readReasons();
        fault();
        reason();
        undo();
        saveAndRestore();
        end();
    }

    /** The town takes 20 hours, spends all it can for umbrellas, and can't pay as a month goes by. */
    private static void makeArrears(WeatherMinistry ministry, int town) {
        ministry.credit(town, 20, 1);
        buyAll(ministry, town, 7);
        ministry.month();
    }

    private static void constants() {
        fresh("constants");
        same(-1, NONE);
        same(-2, BAD);
        same(-3, STATE);
        same(-4, FULL);
        same(-5, REFUSED);
        same(-6, NOTHING);
    }

    private static void newObject() {
        WeatherMinistry m = fresh("1 a new object");
        int[] due = {0, 0, 0, 50, 0, 0, 10, 0, 0, 0, 0, 0, 0, 0, 0, 0};
        for (int what = 0; what < due.length; what++) {
            same(due[what], m.account(what));
        }
        for (int town = 0; town < 5; town++) {
            same(town + ":10s0r2u", town(m, town));
            same(0, m.townOf(town, 4));
            same(0, m.townOf(town, 5));
            same(0, m.townOf(town, 6));
        }
        same("", credits(m));
        same(STATE, m.fault());
        same(STATE, m.reason(0, false));
        same(STATE, m.undo());
        same(STATE, m.restore());
        same(true, m.isCounted());
        m.month();
        same(0, new WeatherMinistry().account(0));
    }

    private static void treaty() {
        WeatherMinistry m = fresh("2 treaty");
        same(1, m.treaty(0, 1, true));
        same(2, m.treaty(4, 0, true));
        refused(m, m.treaty(1, 0, true), 7, 1);
        refused(m, m.treaty(0, 4, true), 7, 1);
        refused(m, m.treaty(1, 4, false), 7, 0);
        refused(m, m.treaty(3, 3, true), 8, 3);
        refused(m, m.treaty(0, 0, false), 8, 0);
        same(NONE, m.treaty(5, 5, true));
        same(NONE, m.treaty(-1, 0, true));
        same(NONE, m.treaty(0, -1, false));
        same(NONE, m.treaty(0, 5, true));
        same(NONE, m.treaty(Integer.MIN_VALUE, Integer.MAX_VALUE, true));
        same(8, m.reason(0, false));
        same(2, m.account(15));
        same(1, m.treaty(1, 0, false));
        same(NOTHING, m.far(0, 1));
        same(1, m.far(0, 4));
        refused(m, m.treaty(0, 1, false), 7, 0);
        same(2, m.treaty(0, 1, true));
        int treaties = 2;
        for (int one = 0; one < 5; one++) {
            for (int other = one + 1; other < 5; other++) {
                if (one != 0 || other != 1 && other != 4) {
                    treaties++;
                    same(treaties, m.treaty(one, other, true));
                }
            }
        }
        same(10, m.account(2));
    }

    private static void credit() {
        WeatherMinistry m = fresh("3 credit");
        same(NONE, m.credit(5, 0, 0));
        same(NONE, m.credit(-1, 1, 1));
        same(BAD, m.credit(0, 0, 1));
        same(BAD, m.credit(0, 21, 1));
        same(BAD, m.credit(0, 1, 0));
        same(BAD, m.credit(0, 1, 7));
        same(BAD, m.credit(0, Integer.MAX_VALUE, 1));
        same(STATE, m.reason(0, false));
        same(0, m.credit(4, 20, 6));
        same(1, m.credit(4, 20, 1));
        same("4:50s0r2u", town(m, 4));
        refused(m, m.credit(4, 11, 1), 3, 10);
        same(2, m.credit(4, 10, 1));
        refused(m, m.credit(4, 1, 1), 3, 0);
        same("4*20@6 4*20@1 4*10@1", credits(m));
        for (int i = 3; i < 8; i++) {
            same(i, m.credit(0, 1, 2));
        }
        refused(m, m.credit(0, 1, 2), 1, 8);
        refused(m, m.credit(4, 1, 2), 1, 8);
        same(8, m.account(1));
        same(55, m.account(7));
        WeatherMinistry poor = fresh("3 credit with arrears");
        makeArrears(poor, 2);
        same("2:1s33r5u17a", town(poor, 2));
        refused(poor, poor.credit(2, 1, 1), 2, 17);
        for (int i = 0; i < 8; i++) {
            same(i, poor.credit(0, 1, 2));
        }
        refused(poor, poor.credit(2, 20, 1), 2, 17);
    }

    private static void repay() {
        WeatherMinistry m = fresh("4 repay");
        same(NONE, m.repay(0));
        m.credit(0, 5, 1);
        m.credit(1, 6, 2);
        m.credit(0, 7, 3);
        same(NONE, m.repay(3));
        same(NONE, m.repay(-1));
        same(16, m.townOf(1, 0));
        same(10, m.repay(1));
        same("0*5@1 0*7@3", credits(m));
        buyAll(m, 0, 4);
        same(6, m.townOf(0, 0));
        refused(m, m.repay(1), 4, 6);
        same(1, m.repay(0));
        same("0*7@3", credits(m));
        refused(m, m.repay(0), 4, 1);
        same(NONE, m.repay(1));
        same(11, m.account(8));
        same(0, m.account(12));
        same(0, m.account(13));
        WeatherMinistry even = fresh("4 repay all");
        even.credit(0, 18, 1);
        buyAll(even, 0, 2);
        even.credit(0, 2, 1);
        buyAll(even, 0, 1);
        same(18, even.townOf(0, 0));
        same(0, even.repay(0));
    }

    private static void rain() {
        WeatherMinistry m = fresh("5 rain");
        same(NONE, m.rain(5, 0));
        same(NONE, m.rain(-1, 1));
        same(BAD, m.rain(0, 0));
        same(BAD, m.rain(0, 21));
        same(20, m.rain(0, 20));
        m.treaty(0, 1, true);
        m.treaty(1, 2, true);
        m.treaty(2, 3, true);
        m.treaty(3, 4, true);
        same(38, m.rain(0, 20));
        int[] rains = {40, 10, 5, 2, 1};
        for (int town = 0; town < 5; town++) {
            same(rains[town], m.townOf(town, 1));
        }
        same(19 + 9 + 9 + 4 + 4, m.rain(2, 19));
        same(1, m.rain(4, 1));
        same(4, m.rain(4, 3));
        m.rain(0, 20);
        same(60, m.townOf(0, 1));
        same(38, m.rain(0, 20));
        same(60, m.townOf(0, 1));
        m.treaty(0, 2, true);
        same(20 + 10 + 10 + 5 + 2, m.rain(0, 20));
    }

    private static void bail() {
        WeatherMinistry m = fresh("6 bail");
        same(NONE, m.bail(5, 0));
        same(NONE, m.bail(-1, 1));
        same(BAD, m.bail(0, 0));
        same(BAD, m.bail(0, 10));
        refused(m, m.bail(0, 1), 5, 2);
        refused(m, m.bail(0, 9), 5, 2);
        makeArrears(m, 2);
        same("2:1s33r5u17a", town(m, 2));
        refused(m, m.bail(2, 6), 6, 5);
        same(14, m.bail(2, 1));
        same("2:1s33r4u14a", town(m, 2));
        same(2, m.bail(2, 4));
        same("2:1s33r0u2a", town(m, 2));
        refused(m, m.bail(2, 1), 6, 0);
        same(4, m.account(10));
        WeatherMinistry light = fresh("6 bail beyond arrears");
        arrearsOfOne(light);
        same(0, light.bail(0, 4));
        same("0:1s1r0u", town(light, 0));
        refused(light, light.bail(0, 9), 5, 0);
    }

    private static void buy() {
        WeatherMinistry m = fresh("7 buy");
        same(NONE, m.buy(5));
        same(NONE, m.buy(-1));
        same(3, m.buy(0));
        same(4, m.buy(0));
        same(2, m.townOf(0, 0));
        refused(m, m.buy(0), 4, 2);
        m.credit(0, 2, 6);
        same(5, m.buy(0));
        same(0, m.townOf(0, 0));
        refused(m, m.buy(0), 4, 0);
        m.credit(0, 20, 6);
        buyAll(m, 0, 4);
        same(9, m.townOf(0, 2));
        refused(m, m.buy(0), 1, 9);
        same(4, m.townOf(0, 0));
        m.credit(0, 3, 6);
        m.repay(2);
        refused(m, m.buy(0), 1, 9);
        same(17, m.account(6));
        same(true, m.isCounted());
    }

    private static void month() {
        WeatherMinistry m = fresh("8 month");
        int[] suns = {1, 2, 3, 4, 5, 5, 4, 3, 2, 1, 1, 1, 1, 2};
        int sun = 10;
        for (int i = 0; i < suns.length; i++) {
            same(0, m.month());
            sun += suns[i];
            same(sun, m.townOf(3, 0));
            same(i + 1, m.account(0));
        }
        months(m, 3);
        same(57, m.townOf(3, 0));
        m.month();
        same(60, m.townOf(3, 0));
        same(250, m.account(7));
        m.month();
        same(250, m.account(7));
        same(true, m.isCounted());
        WeatherMinistry wet = fresh("8 rain dries");
        wet.rain(1, 7);
        int[] rains = {4, 1, 0, 0};
        for (int rain : rains) {
            wet.month();
            same(rain, wet.townOf(1, 1));
        }
        creditsEnd();
        creditsOfOneMonth();
        oneHourLacks();
    }

    private static void oneHourLacks() {
        WeatherMinistry m = fresh("8 one hour lacks");
        m.credit(0, 3, 1);
        buyAll(m, 0, 3);
        m.credit(0, 1, 1);
        same("0:2s0r5u", town(m, 0));
        same(2, m.month());
        same(4, m.account(11));
        WeatherMinistry one = fresh("8 one hour lacks, of one");
        one.credit(0, 2, 6);
        buyAll(one, 0, 3);
        one.credit(0, 1, 1);
        one.credit(0, 1, 6);
        one.repay(2);
        one.credit(1, 5, 1);
        one.credit(1, 5, 1);
        buyAll(one, 1, 3);
        same(8, one.townOf(1, 0));
        one.repay(3);
        same(3, one.townOf(1, 0));
        one.credit(1, 1, 6);
        same(1, one.month());
        same("1:1s0r4u", town(one, 1));
        same(2, one.account(11));
        same(1, one.account(10));
    }

    private static void creditsEnd() {
        WeatherMinistry m = fresh("8 credits end");
        m.treaty(0, 1, true);
        m.treaty(1, 2, true);
        m.credit(0, 20, 1);
        m.credit(1, 10, 1);
        m.credit(2, 3, 2);
        buyAll(m, 0, 5);
        same("0:10s0r7u", town(m, 0));
        same(1, m.month());
        same("0:1s17r5u9a", town(m, 0));
        same("1:11s7r2u", town(m, 1));
        same("2:14s2r2u", town(m, 2));
        same("2*3@2", credits(m));
        same(20, m.account(8));
        same(20, m.account(11));
        same(2, m.account(12));
        same(1, m.account(13));
        same(2, m.account(10));
        same(0, m.account(9));
        same(0, m.month());
        same("0:3s14r3u8a", town(m, 0));
        same("2:13s0r2u", town(m, 2));
        same(3, m.account(12));
        same(2, m.account(13));
        same(true, m.isCounted());
    }

    /** Those that are due at once are paid in their order, each as far as the sun goes. */
    private static void creditsOfOneMonth() {
        WeatherMinistry m = fresh("8 credits of one month");
        m.credit(0, 9, 2);
        m.month();
        m.credit(0, 4, 1);
        m.credit(0, 5, 1);
        m.credit(0, 1, 2);
        buyAll(m, 0, 5);
        m.credit(0, 4, 1);
        same("0*9@2 0*4@2 0*5@2 0*1@3 0*4@2", credits(m));
        same(14, m.townOf(0, 0));
        same(2, m.month());
        same("0*1@3", credits(m));
        same("0:2s13r5u7a", town(m, 0));
        same(2, m.account(13));
        same(4, m.account(12));
        same(16, m.account(11));
        same(14, m.account(8));
        same(0, m.month());
        same("0:4s10r3u6a", town(m, 0));
        WeatherMinistry drowned = fresh("8 rain is lost");
        drowned.credit(0, 20, 1);
        buyAll(drowned, 0, 7);
        for (int i = 0; i < 3; i++) {
            drowned.rain(0, 20);
        }
        same(60, drowned.townOf(0, 1));
        same(1, drowned.month());
        same(57, drowned.townOf(0, 1));
        same(36, drowned.account(11));
    }

    private static void hail() {
        WeatherMinistry m = fresh("8 hail");
        for (int i = 0; i < 2; i++) {
            m.credit(1, 20, 1);
        }
        buyAll(m, 1, 7);
        m.credit(1, 20, 1);
        same("1:42s0r9u", town(m, 1));
        same(1, m.month());
        same("1:1s33r5u17a", town(m, 1));
        same(2, m.bail(1, 5));
        WeatherMinistry bare = fresh("8 hail takes sun");
        makeArrears(bare, 2);
        same(8, bare.bail(2, 3));
        same("2:1s33r2u8a", town(bare, 2));
        bare.month();
        same("2:3s30r0u7a", town(bare, 2));
        same(6, bare.account(10));
        same(0, bare.account(9));
        bare.month();
        same("2:4s27r0u6a", town(bare, 2));
        bare.month();
        same("2:6s24r0u5a", town(bare, 2));
        bare.month();
        same("2:10s21r0u4a", town(bare, 2));
        same(6, bare.account(10));
        same(5, bare.account(9));
        WeatherMinistry poor = fresh("8 hail on the poor");
        for (int i = 0; i < 3; i++) {
            poor.credit(0, 16, 1);
        }
        buyAll(poor, 0, 7);
        same("0:30s0r9u", town(poor, 0));
        same(2, poor.month());
        same("0:1s33r5u17a", town(poor, 0));
        same(0, poor.month());
        same("0:3s30r1u16a", town(poor, 0));
        same(0, poor.month());
        // Four hits: one breaks the last umbrella, the others take all the sun there is.
        same("0:3s27r0u15a", town(poor, 0));
        same(3, poor.account(9));
        same(9, poor.account(10));
        same(0, poor.month());
        same("0:4s24r0u14a", town(poor, 0));
        same(6, poor.account(9));
        same(0, poor.month());
        same("0:6s21r0u13a", town(poor, 0));
        same(9, poor.account(9));
        same(true, poor.isCounted());
        refused(poor, poor.bail(0, 1), 6, 0);
    }

    private static void townOf() {
        WeatherMinistry m = fresh("9 townOf");
        same(NONE, m.townOf(5, 0));
        same(NONE, m.townOf(-1, 7));
        same(BAD, m.townOf(0, 7));
        same(BAD, m.townOf(0, -1));
        m.treaty(0, 1, true);
        m.treaty(1, 2, true);
        m.treaty(2, 0, true);
        m.treaty(3, 4, true);
        makeArrears(m, 2);
        m.credit(1, 3, 2);
        m.credit(1, 4, 2);
        int[] first = {11, 15, 2, 0, 0, 2, 2};
        int[] second = {18, 15, 2, 0, 2, 2, 2};
        int[] third = {1, 33, 5, 17, 0, 2, 2};
        int[] fourth = {11, 0, 2, 0, 0, 1, 1};
        for (int what = 0; what < 7; what++) {
            same(first[what], m.townOf(0, what));
            same(second[what], m.townOf(1, what));
            same(third[what], m.townOf(2, what));
            same(fourth[what], m.townOf(3, what));
        }
        m.treaty(0, 1, false);
        m.treaty(2, 3, true);
        same(1, m.townOf(0, 5));
        same(4, m.townOf(0, 6));
        same(3, m.townOf(2, 5));
        WeatherMinistry row = fresh("9 townOf in a row of towns");
        row.treaty(0, 1, true);
        row.treaty(1, 2, true);
        row.treaty(2, 3, true);
        row.treaty(3, 4, true);
        same(4, row.townOf(4, 6));
        same(4, row.townOf(0, 6));
        same(1, row.townOf(4, 5));
    }

    private static void creditOf() {
        WeatherMinistry m = fresh("10 creditOf");
        same(NONE, m.creditOf(0, 0));
        m.month();
        m.credit(3, 12, 4);
        m.credit(2, 5, 2);
        m.month();
        int[] first = {3, 12, 5, 3};
        int[] second = {2, 5, 3, 1};
        for (int what = 0; what < 4; what++) {
            same(first[what], m.creditOf(0, what));
            same(second[what], m.creditOf(1, what));
        }
        same(BAD, m.creditOf(0, 4));
        same(BAD, m.creditOf(1, -1));
        same(NONE, m.creditOf(2, 0));
        same(NONE, m.creditOf(-1, 4));
        same(NONE, m.creditOf(8, 0));
    }

    private static void owes() {
        WeatherMinistry m = fresh("11 and 12 owes");
        same(0, m.owes(0));
        same(0, m.owesAgain(0));
        m.credit(0, 20, 6);
        m.credit(1, 3, 1);
        m.credit(0, 7, 1);
        m.credit(0, 7, 1);
        same(34, m.owes(0));
        same(34, m.owesAgain(0));
        same(3, m.owes(1));
        same(3, m.owesAgain(1));
        same(0, m.owes(2));
        same(0, m.owesAgain(2));
        m.month();
        same(20, m.owes(0));
        same(20, m.owesAgain(0));
        for (int town : new int[] {-1, 5, Integer.MIN_VALUE, Integer.MAX_VALUE}) {
            same(NONE, m.owes(town));
            same(NONE, m.owesAgain(town));
        }
    }

    private static void due() {
        WeatherMinistry m = fresh("13 due");
        for (int months = 1; months <= 6; months++) {
            m.credit(months % 5, months, months);
        }
        m.credit(0, 20, 6);
        same(0, m.due(0));
        same(1, m.due(1));
        same(5, m.due(5));
        same(26, m.due(6));
        m.month();
        same(0, m.due(0));
        same(2, m.due(1));
        same(26, m.due(5));
        same(0, m.due(6));
        same(BAD, m.due(-1));
        same(BAD, m.due(7));
    }

    private static void far() {
        WeatherMinistry m = fresh("14 far");
        same(0, m.far(4, 4));
        same(NOTHING, m.far(0, 4));
        m.treaty(0, 1, true);
        m.treaty(1, 2, true);
        m.treaty(2, 3, true);
        m.treaty(3, 4, true);
        same(4, m.far(0, 4));
        same(4, m.far(4, 0));
        same(2, m.far(1, 3));
        m.treaty(4, 0, true);
        same(1, m.far(0, 4));
        same(2, m.far(0, 3));
        m.treaty(0, 4, false);
        m.treaty(2, 1, false);
        same(NOTHING, m.far(0, 4));
        same(1, m.far(1, 0));
        same(NONE, m.far(5, 0));
        same(NONE, m.far(0, 5));
        same(NONE, m.far(-1, -1));
    }

    private static void drizzle() {
        WeatherMinistry m = fresh("15 and 16 drizzle");
        m.treaty(0, 1, true);
        m.treaty(1, 2, true);
        m.treaty(2, 3, true);
        m.treaty(3, 4, true);
        bothDrizzle(m, 0, 20, new int[] {20, 10, 5, 2, 1});
        bothDrizzle(m, 2, 7, new int[] {1, 3, 7, 3, 1});
        bothDrizzle(m, 4, 1, new int[] {0, 0, 0, 0, 1});
        bothDrizzle(m, 4, 20, new int[] {1, 2, 5, 10, 20});
        m.treaty(0, 3, true);
        m.treaty(3, 4, false);
        bothDrizzle(m, 0, 15, new int[] {15, 7, 3, 7, 0});
        bothDrizzle(m, 4, 20, new int[] {0, 0, 0, 0, 20});
        for (int i = 0; i < 4; i++) {
            m.rain(0, 20);
        }
        bothDrizzle(m, 0, 20, new int[] {20, 10, 5, 10, 0});
        int[][] wrongTowns = {{5, 0}, {0, 5}, {-1, 0}, {0, -1}};
        for (int[] towns : wrongTowns) {
            same(NONE, m.drizzle(towns[0], 0, towns[1]));
            same(NONE, m.drizzleAgain(towns[0], 21, towns[1]));
        }
        for (int hours : new int[] {0, 21, -5}) {
            same(BAD, m.drizzle(0, hours, 1));
            same(BAD, m.drizzleAgain(0, hours, 1));
        }
        same(60, m.townOf(0, 1));
        same(20, m.townOf(2, 1));
    }

    private static void bothDrizzle(WeatherMinistry m, int in, int hours, int[] due) {
        for (int at = 0; at < 5; at++) {
            same(due[at], m.drizzle(in, hours, at));
            same(due[at], m.drizzleAgain(in, hours, at));
        }
    }

    private static WeatherMinistry readyForWould(int months) {
        WeatherMinistry m = fresh("17 would, in " + months + " months");
        m.treaty(2, 3, true);
        m.credit(2, 20, 3);
        m.credit(3, 5, 2);
        buyAll(m, 2, 6);
        m.rain(3, 11);
        return m;
    }

    private static void would() {
        for (int months = 0; months < 25; months++) {
            WeatherMinistry asked = readyForWould(months);
            WeatherMinistry lived = readyForWould(months);
            months(lived, months);
            for (int town = 0; town < 5; town++) {
                for (int what = 0; what < 4; what++) {
                    same(lived.townOf(town, what), asked.would(town, months, what));
                }
            }
            same(picture(readyForWould(months)), picture(asked));
            same(8, asked.account(15));
        }
        WeatherMinistry m = fresh("17 would");
        same(NONE, m.would(5, -1, -1));
        same(NONE, m.would(-1, 0, 0));
        same(BAD, m.would(0, -1, 0));
        same(BAD, m.would(0, 25, 0));
        same(BAD, m.would(0, 0, 4));
        same(BAD, m.would(0, 24, -1));
        same(BAD, m.would(0, 24, 7));
    }

    private static void most() {
        WeatherMinistry m = fresh("18 most");
        same(20, m.most(0, 1));
        same(NONE, m.most(5, 0));
        same(NONE, m.most(-1, 1));
        same(BAD, m.most(0, 0));
        same(BAD, m.most(0, 7));
        m.credit(0, 20, 6);
        m.credit(0, 20, 6);
        same(10, m.most(0, 1));
        same(10, m.most(0, 5));
        m.credit(0, 10, 6);
        same(0, m.most(0, 1));
        same(STATE, m.reason(0, false));
        same(3, m.account(15));
        WeatherMinistry full = fresh("18 most with 8 credits");
        for (int i = 0; i < 7; i++) {
            full.credit(0, 1, 2);
        }
        same(20, full.most(1, 6));
        full.credit(0, 1, 2);
        same(0, full.most(1, 6));
        WeatherMinistry poor = fresh("18 most with arrears");
        makeArrears(poor, 2);
        same(0, poor.most(2, 6));
        same(20, poor.most(1, 1));
        mostBesideOthers();
        mostOfFew();
    }

    private static void mostOfFew() {
        WeatherMinistry m = fresh("18 most, a single hour");
        m.credit(0, 20, 6);
        m.credit(0, 20, 6);
        m.credit(0, 9, 6);
        same(1, m.most(0, 1));
        WeatherMinistry even = fresh("18 most, with what is just enough");
        even.credit(0, 6, 1);
        buyAll(even, 0, 2);
        same("0:8s0r4u", town(even, 0));
        even.credit(0, 2, 1);
        even.buy(0);
        same("0:6s0r5u", town(even, 0));
        // 6 hours and h, of which 8 and h would be due.
        same(0, even.most(0, 1));
        even.repay(1);
        same(0, even.most(0, 1));
        even.credit(0, 2, 6);
        // 6 hours and h, of which 6 and h would be due.
        same(20, even.most(0, 1));
        WeatherMinistry behind = fresh("18 most behind a credit that can't be paid");
        behind.credit(0, 20, 1);
        buyAll(behind, 0, 7);
        same("0:2s0r9u", town(behind, 0));
        // Whatever it takes goes for the other credit; the 1 hour of sun of month 1 is left for it.
        same(1, behind.most(0, 2));
        same(0, behind.most(0, 1));
        WeatherMinistry light = fresh("18 most with arrears of 1");
        arrearsOfOne(light);
        same(0, light.most(0, 1));
        refused(light, light.credit(0, 1, 1), 2, 1);
        light.month();
        same("0:3s0r3u", town(light, 0));
        same(20, light.most(0, 1));
    }

    private static void arrearsOfOne(WeatherMinistry m) {
        m.credit(0, 4, 1);
        buyAll(m, 0, 3);
        m.month();
        same("0:1s1r4u1a", town(m, 0));
    }

    /** A credit that falls behind another one is paid in full just if the sun is enough for both. */
    private static void mostBesideOthers() {
        WeatherMinistry m = fresh("18 most beside others");
        m.credit(0, 20, 1);
        m.credit(0, 6, 2);
        buyAll(m, 0, 7);
        same("0:8s0r9u", town(m, 0));
        // Another credit of the same month is not paid in full, so none of this one's would be left.
        same(0, m.most(0, 1));
        // 20 hours more: 28 - 20 in month 1 and 1 of sun are 9, of which 6 are due ahead.
        same(0, m.most(0, 2));
        m.credit(0, 20, 6);
        // 28 and h, without 20, and 1 of sun: 9 and h, of which 6 and h are due in month 2.
        same(20, m.most(0, 2));
        same(20, m.most(0, 1));
    }

    private static void ranked() {
        WeatherMinistry m = fresh("19 ranked");
        order(m, 0, 1, 2, 3, 4);
        m.credit(0, 1, 6);
        m.credit(3, 2, 6);
        m.buy(4);
        order(m, 4, 1, 2, 0, 3);
        makeArrears(m, 2);
        order(m, 2, 4, 1, 0, 3);
        m.credit(1, 20, 1);
        buyAll(m, 1, 7);
        m.month();
        same("1:2s31r5u16a", town(m, 1));
        same("2:3s30r1u16a", town(m, 2));
        order(m, 1, 2, 4, 0, 3);
        m.bail(1, 1);
        order(m, 2, 1, 4, 0, 3);
        same(NONE, m.ranked(5));
        same(NONE, m.ranked(-1));
        WeatherMinistry even = fresh("19 ranked, of even arrears");
        even.credit(3, 20, 1);
        even.credit(1, 20, 1);
        buyAll(even, 3, 7);
        buyAll(even, 1, 7);
        even.month();
        order(even, 1, 3, 0, 2, 4);
        even.buy(0);
        order(even, 1, 3, 0, 2, 4);
        even.buy(4);
        even.buy(4);
        order(even, 1, 3, 4, 0, 2);
    }

    private static void next() {
        WeatherMinistry m = fresh("20 next");
        same(NONE, m.next(0));
        m.credit(0, 5, 3);
        m.credit(1, 9, 3);
        m.credit(2, 1, 1);
        m.credit(3, 5, 3);
        m.credit(4, 20, 6);
        int[] due = {2, 1, 0, 3, 4};
        for (int place = 0; place < due.length; place++) {
            same(due[place], m.next(place));
        }
        same(NONE, m.next(5));
        same(NONE, m.next(-1));
        m.month();
        same(1, m.next(0));
        same(0, m.next(1));
        same(2, m.next(2));
        same(3, m.next(3));
        same(NONE, m.next(4));
    }

    private static void isCounted() {
        WeatherMinistry m = fresh("21 isCounted");
        same(true, m.isCounted());
        m.treaty(0, 1, true);
        m.treaty(1, 3, true);
        m.credit(0, 20, 1);
        m.credit(3, 4, 2);
        same(true, m.isCounted());
        m.repay(1);
        same(true, m.isCounted());
        buyAll(m, 0, 7);
        same(true, m.isCounted());
        for (int i = 0; i < 30; i++) {
            m.month();
            same(true, m.isCounted());
        }
        m.undo();
        same(true, m.isCounted());
    }

    private static void means() {
        WeatherMinistry m = fresh("22 and 23 means");
        same(10.0, m.meanSun());
        same(0.0f, m.paidShare());
        m.credit(0, 3, 1);
        same(53.0 / 5.0, m.meanSun());
        m.repay(0);
        same(0.0f, m.paidShare());
        m.credit(1, 2, 1);
        m.credit(0, 20, 1);
        buyAll(m, 0, 7);
        same((4 * 10 + 2 + 2) / 5.0, m.meanSun());
        m.month();
        same(0.5f, m.paidShare());
        m.credit(1, 2, 1);
        m.month();
        same((float) 2 / (float) 3, m.paidShare());
        m.undo();
        same(0.5f, m.paidShare());
    }

    private static void account() {
        WeatherMinistry m = fresh("24 account");
        same(BAD, m.account(-1));
        same(BAD, m.account(16));
        same(BAD, m.account(Integer.MAX_VALUE));
        m.treaty(0, 1, true);
        m.treaty(0, 2, true);
        m.credit(0, 16, 1);
        m.credit(0, 16, 1);
        buyAll(m, 0, 7);
        m.credit(0, 2, 1);
        m.credit(0, 3, 6);
        m.month();
        m.credit(4, 6, 1);
        m.repay(1);
        m.append('m');
        m.append('o');
        int sun = 1 + 4 * 11;
        int rain = 27 + 12 + 12;
        int[] due = {1, 1, 2, sun, rain, 14, 14, 48, 25, 0, 3, 30, 3, 1, 2, 8};
        for (int what = 0; what < due.length; what++) {
            same(due[what], m.account(what));
        }
        months(m, 3);
        same(true, m.isCounted());
        m.bail(0, 3);
        same(0, m.account(6) - 8);
        m.rain(4, 5);
        same(30, m.account(11));
    }

    private static void write() {
        WeatherMinistry m = fresh("25 write");
        same(9, m.write(0));
        same("0:10s0r2u", line(m, 9));
        same(NONE, m.write(5));
        same(NONE, m.write(-1));
        same("0:10s0r2u", line(m, 9));
        makeArrears(m, 3);
        same(12, m.write(3));
        same("3:1s33r5u17a", line(m, 12));
        same(9, m.write(4));
        same("4:11s0r2u", line(m, 9));
        same(NONE, m.written(9));
    }

    private static void writeCredits() {
        WeatherMinistry m = fresh("26 and 27 writeCredits, written");
        same(NONE, m.written(0));
        same(0, m.writeCredits());
        same(NONE, m.written(0));
        months(m, 9);
        m.credit(4, 20, 1);
        same(7, m.writeCredits());
        same("4*20@10", line(m, 7));
        m.credit(0, 1, 6);
        same("4*20@10 0*1@15", line(m, m.writeCredits()));
        same((int) '*', m.written(1));
        same((int) ' ', m.written(7));
        same((int) '5', m.written(13));
        same(NONE, m.written(14));
        same(NONE, m.written(-1));
        same(NONE, m.written(Integer.MAX_VALUE));
        m.credit(2, 10, 2);
        m.undo();
        same("4*20@10 0*1@15", line(m, 14));
        m.repay(0);
        same("0*1@15", line(m, m.writeCredits()));
        same(NONE, m.written(6));
        m.write(1);
        same((int) ':', m.written(1));
    }

    private static void append() {
        WeatherMinistry m = fresh("28 append");
        same(BAD, m.append((char) 31));
        same(BAD, m.append((char) 127));
        same(BAD, m.append((char) 0));
        same(BAD, m.append((char) 65535));
        same(1, m.append((char) 32));
        same(2, m.append((char) 126));
        for (int i = 3; i <= 60; i++) {
            same(i, m.append('x'));
        }
        same(FULL, m.append('x'));
        same(BAD, m.append((char) 31));
        same(60, m.account(14));
        same(0, m.account(15));
        same(BAD, m.read());
        same(0, m.account(14));
        same(1, m.append('m'));
    }

    private static void read() {
        WeatherMinistry m = fresh("29 read");
        same(1, read(m, "treaty 0 4"));
        same(1, m.far(4, 0));
        same(1, read(m, "end 4 0"));
        same(0, m.account(2));
        same(1, read(m, "credit 1 20 6"));
        same(2, read(m, "credit 2 5 1;credit 3 05 2"));
        same("1*20@6 2*5@1 3*5@2", credits(m));
        same(1, read(m, "repay 1"));
        same("1*20@6 3*5@2", credits(m));
        same(2, read(m, "rain 0 9;rain 1 20"));
        same("0:10s9r2u", town(m, 0));
        same("1:30s20r2u", town(m, 1));
        same(1, read(m, "buy 1"));
        same("1:26s20r3u", town(m, 1));
        same(1, read(m, "month"));
        same(1, m.account(0));
        same(8, m.account(15));
        same(10, read(m, "month;month;month;month;month;month;month;month;month;month"));
        same(11, m.account(0));
        same(0, m.account(14));
        same(8, m.account(15));
        same(7, m.undo());
        same(1, m.account(0));
        same(STATE, m.reason(0, false));
        same(STATE, m.fault());
        makeArrears(m, 4);
        same("4:2s31r5u16a", town(m, 4));
        same(1, read(m, "bail 4 3"));
        same("4:2s31r2u7a", town(m, 4));
        same(2, read(m, "buy 1;buy 1"));
        same(5, m.townOf(1, 2));
        same(0, m.account(14));
        WeatherMinistry late = fresh("29 read sees what commands before did");
        same(3, read(late, "credit 0 9 1;repay 0;credit 0 8 1"));
        same("0*8@1", credits(late));
        same(3, read(late, "treaty 0 1;end 0 1;treaty 1 0"));
        same(1, late.account(2));
    }

    private static void outOfRange(String text, int command) {
        WeatherMinistry m = fresh("29 read, a number out of range: " + text);
        same(REFUSED, read(m, text));
        same(9, m.reason(0, false));
        same(command, m.reason(0, true));
        same(NOTHING, m.reason(1, false));
        same(NOTHING, m.reason(1, true));
        same(0, m.account(14));
        same(0, m.account(15));
        same(0, m.account(0));
        same(0, m.account(1));
        same(0, m.account(4));
        same(STATE, m.fault());
    }

    private static void readRanges() {
        outOfRange("treaty 0 5", 0);
        outOfRange("treaty 9 9", 0);
        outOfRange("end 5 0", 0);
        outOfRange("credit 5 1 1", 0);
        outOfRange("credit 0 0 1", 0);
        outOfRange("credit 0 00 1", 0);
        outOfRange("credit 0 21 1", 0);
        outOfRange("credit 0 1 0", 0);
        outOfRange("credit 0 1 7", 0);
        outOfRange("repay 0", 0);
        outOfRange("credit 0 1 1;repay 1", 1);
        outOfRange("credit 0 1 1;repay 0;repay 0", 2);
        outOfRange("rain 5 1", 0);
        outOfRange("rain 0 0", 0);
        outOfRange("rain 0 21", 0);
        outOfRange("rain 0 20;rain 4 99", 1);
        outOfRange("bail 5 1", 0);
        outOfRange("bail 0 0", 0);
        outOfRange("month;buy 5", 1);
        outOfRange("month;credit 0 20 1;month;rain 1 2;buy 9;buy 9", 4);
    }

    private static void readReasons() {
        WeatherMinistry m = fresh("29 read, reasons");
        readRefused(m, "rain 0 3;treaty 2 2", 1, 8, 2);
        readRefused(m, "treaty 2 1;treaty 1 2", 1, 7, 1);
        readRefused(m, "end 2 1", 0, 7, 0);
        readRefused(m, "credit 0 20 1;credit 0 20 1;credit 0 20 1", 2, 3, 10);
        readRefused(m, "credit 1 4 1;buy 1;buy 1;buy 1;repay 0", 4, 4, 2);
        readRefused(m, "buy 0;buy 0;buy 0", 2, 4, 2);
        readRefused(m, "bail 3 9", 0, 5, 2);
        same(0, m.account(1));
        same(0, m.account(2));
        makeArrears(m, 3);
        readRefused(m, "bail 3 2;bail 3 4", 1, 6, 3);
        readRefused(m, "credit 3 1 1", 0, 2, 17);
        readRefused(m, "credit 3 0 1;bail 3 9", 0, NOTHING, NOTHING);
        same("3:1s33r5u17a", town(m, 3));
        m.credit(0, 20, 6);
        buyAll(m, 0, 6);
        readRefused(m, "buy 0;buy 0", 1, 1, 9);
        for (int i = 1; i < 7; i++) {
            m.credit(0, 1, 6);
        }
        readRefused(m, "credit 1 1 1;credit 1 1 1", 1, 1, 8);
        readRefused(m, "credit 3 1 1", 0, 2, 17);
        same(1, m.account(0));
    }

    private static void fault() {
        faultAt(0, "");
        faultAt(0, " month");
        faultAt(0, ";");
        faultAt(0, "x");
        faultAt(0, "M");
        faultAt(1, "mix");
        faultAt(4, "mont");
        faultAt(5, "month ");
        faultAt(5, "months");
        faultAt(6, "month;");
        faultAt(6, "month;;month");
        faultAt(6, "month; month");
        faultAt(1, "t");
        faultAt(2, "trx");
        faultAt(6, "treaty");
        faultAt(7, "treaty ");
        faultAt(7, "treaty x");
        faultAt(8, "treaty 0");
        faultAt(8, "treaty 01 1");
        faultAt(9, "treaty 0 ");
        faultAt(9, "treaty 0  1");
        faultAt(10, "treaty 0 10");
        faultAt(1, "r");
        faultAt(1, "rx");
        faultAt(2, "rex");
        faultAt(2, "rax");
        faultAt(2, "re");
        faultAt(5, "repay");
        faultAt(7, "repay 00");
        faultAt(1, "bx");
        faultAt(2, "bux");
        faultAt(2, "ba");
        faultAt(3, "bai");
        faultAt(3, "baix");
        faultAt(4, "buy ");
        faultAt(5, "buy 0 ");
        faultAt(6, "bail 0");
        faultAt(8, "bail 0 12");
        faultAt(2, "en");
        faultAt(2, "ent");
        faultAt(3, "end");
        faultAt(4, "end x");
        faultAt(9, "credit 0 ");
        faultAt(10, "credit 0 1");
        faultAt(11, "credit 0 12");
        faultAt(11, "credit 0 123 1");
        faultAt(11, "credit 0 1 ");
        faultAt(12, "credit 0 1 12");
        faultAt(7, "rain 0 ");
        faultAt(7, "rain 0 -1");
        faultAt(9, "rain 0 100");
        faultAt(8, "rain 0 1x");
        faultAt(9, "rain 0 1; rain 0 1");
        faultAt(19, "month;month;rain 0 month");
        faultAt(5, "end 00 1");
        faultAt(7, "end 0 11");
        faultAt(8, "credit 00 1 1");
        faultAt(6, "rain 00 1");
        faultAt(6, "bail 00 1");
        faultAt(5, "buy 00");
        faultAt(8, "buy 0;bux 1");
        faultAt(12, "rain 0 1;mon");
        faultAt(15, "treaty 9 9;buy x");
        faultAt(60, "month;month;month;month;month;month;month;month;month;month;");
        WeatherMinistry m = fresh("30 fault");
        same(STATE, m.fault());
        read(m, "buy 9");
        same(STATE, m.fault());
        read(m, "buy x");
        same(4, m.fault());
        same(1, read(m, "month"));
        same(4, m.fault());
        m.save();
        m.undo();
        m.restore();
        same(4, m.fault());
        read(m, "");
        same(0, m.fault());
    }

    private static void reason() {
        WeatherMinistry m = fresh("31 reason");
        same(BAD, m.reason(-1, false));
        same(BAD, m.reason(2, true));
        same(STATE, m.reason(0, true));
        same(STATE, m.reason(1, false));
        m.buy(9);
        m.credit(0, 50, 1);
        same(STATE, m.reason(0, false));
        refused(m, m.treaty(1, 1, true), 8, 1);
        same(BAD, m.reason(2, false));
        same(BAD, m.reason(-1, true));
        m.month();
        m.repay(7);
        same(8, m.reason(0, false));
        m.save();
        read(m, "treaty 3 3");
        same(9, m.reason(0, false));
        same(0, m.reason(0, true));
        same(8, m.reason(1, false));
        same(3, m.reason(1, true));
        m.undo();
        m.restore();
        same(8, m.reason(1, false));
        read(m, "buy 9");
        same(NOTHING, m.reason(1, false));
        same(NOTHING, m.reason(1, true));
        read(m, "end 3 4");
        same(7, m.reason(1, false));
        same(0, m.reason(1, true));
        refused(m, m.bail(0, 1), 5, 2);
    }

    private static final int[] ELEVEN_KINDS = {0, 1, 2, 3, 4, 5, 6, 7, 5, 0, 2};

    /** What a ministry looks like after so many changes, asked of an object of its own. */
    private static String pictureAfter(int changes) {
        WeatherMinistry m = new WeatherMinistry();
        for (int i = 0; i < changes; i++) {
            change(m, ELEVEN_KINDS[i]);
        }
        return picture(m);
    }

    private static void undo() {
        WeatherMinistry m = fresh("32 undo");
        same(STATE, m.undo());
        for (int i = 0; i < ELEVEN_KINDS.length; i++) {
            same(Math.min(8, i + 1), change(m, ELEVEN_KINDS[i]));
        }
        m.buy(9);
        m.treaty(0, 0, true);
        m.restore();
        same(8, m.account(15));
        for (int i = 7; i >= 4; i--) {
            same(i, m.undo());
            same(i, m.account(15));
        }
        same(pictureAfter(7), picture(m));
        same(5, change(m, 7));
        same(4, m.undo());
        same(pictureAfter(7), picture(m));
        for (int i = 3; i >= 0; i--) {
            same(i, m.undo());
        }
        same(pictureAfter(3), picture(m));
        same(STATE, m.undo());
        same(pictureAfter(3), picture(m));
        for (int changes = 4; changes <= 11; changes++) {
            WeatherMinistry other = fresh("32 undo of change " + changes);
            for (int i = 0; i < ELEVEN_KINDS.length; i++) {
                change(other, ELEVEN_KINDS[i]);
            }
            for (int i = ELEVEN_KINDS.length; i >= changes; i--) {
                other.undo();
            }
            same(pictureAfter(changes - 1), picture(other));
        }
        WeatherMinistry idle = fresh("32 undo of what changes nothing");
        for (int i = 0; i < 3; i++) {
            idle.rain(0, 20);
        }
        idle.rain(0, 20);
        same(3, idle.undo());
        same(60, idle.townOf(0, 1));
        type(idle, "mon");
        idle.write(3);
        same(2, idle.undo());
        same(3, idle.account(14));
        same((int) '3', idle.written(0));
    }

    /** Makes one change, of which there is one of each kind, and returns how many can be undone. */
    private static int change(WeatherMinistry m, int kind) {
        int answer;
        switch (kind) {
            case 0:
                answer = m.treaty(0, m.townOf(0, 5) + 1, true);
                break;
            case 1:
                answer = m.credit(0, 20, 1);
                break;
            case 2:
                answer = m.credit(1, 3, 2);
                break;
            case 3:
                answer = m.buy(0);
                break;
            case 4:
                answer = m.repay(1);
                break;
            case 5:
                answer = m.rain(1, 17);
                break;
            case 6:
                answer = read(m, "buy 0;treaty 3 4;end 4 3;credit 2 7 3");
                break;
            default:
                answer = m.month();
                break;
        }
        same(true, answer >= 0);
        return m.account(15);
    }

    private static void saveAndRestore() {
        WeatherMinistry m = fresh("33 and 34 save, restore");
        same(STATE, m.restore());
        makeArrears(m, 1);
        m.treaty(3, 4, true);
        m.credit(4, 20, 5);
        type(m, "mo");
        String picture = picture(m);
        same(1, m.save());
        same(8, m.account(15));
        makeArrears(m, 3);
        same(70, m.account(11));
        months(m, 6);
        m.treaty(3, 4, false);
        m.bail(1, 1);
        m.write(2);
        same(1, m.restore());
        same((int) '2', m.written(0));
        same(picture, picture(m));
        same(0, m.account(15));
        same(STATE, m.undo());
        same(2, m.account(14));
        m.month();
        same(0, m.undo());
        same(picture, picture(m));
        m.month();
        same(2, m.save());
        String later = picture(m);
        m.month();
        m.undo();
        m.undo();
        same(picture, picture(m));
        same(2, m.restore());
        same(later, picture(m));
        same(2, m.restore());
        same(later, picture(m));
    }
}
