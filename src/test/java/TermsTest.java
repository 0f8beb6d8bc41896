/** Each sentence that names a boundary, of the terms from towns to bail, has a test of its own. */
public final class TermsTest extends Checks {
    private TermsTest() {
    }

    public static void main(String[] args) {
        onTheFace();
        onTowns();
        onTreaties();
        onCredit();
        onMonths();
        onBail();
        end();
    }

    private static void onTheFace() {
        fiveHundredTwelveCalls();
        constants();
        divisionsAreRoundedDown();
    }

    /** "An object is used for at most 512 calls after it has been made". */
    private static void fiveHundredTwelveCalls() {
        WeatherMinistry m = fresh("the 512th call");
        for (int i = 1; i < 512; i++) {
            same(0, m.month());
        }
        same(511, m.account(0));
        WeatherMinistry texts = fresh("the 512th call of many that read");
        for (int i = 0; i < 85; i++) {
            same(1, read(texts, "month"));
        }
        same(85, texts.account(0));
        same(true, texts.isCounted());
    }

    /** "The constants". */
    private static void constants() {
        fresh("the constants");
        same(-1, WeatherMinistry.NONE);
        same(-2, WeatherMinistry.BAD);
        same(-3, WeatherMinistry.STATE);
        same(-4, WeatherMinistry.FULL);
        same(-5, WeatherMinistry.REFUSED);
        same(-6, WeatherMinistry.NOTHING);
    }

    /** "All divisions of integers are rounded down." */
    private static void divisionsAreRoundedDown() {
        WeatherMinistry m = fresh("divisions are rounded down");
        makeRow(m);
        int[][] halves = {{1, 0, 0}, {2, 1, 0}, {3, 1, 0}, {4, 2, 1}, {5, 2, 1}, {7, 3, 1}, {19, 9, 4}};
        for (int[] half : halves) {
            same(half[1], m.drizzle(0, half[0], 1));
            same(half[1], m.drizzleAgain(0, half[0], 1));
            same(half[2], m.drizzle(0, half[0], 2));
            same(half[2], m.drizzleAgain(0, half[0], 2));
        }
    }

    private static void onTowns() {
        townsAreZeroToFour();
        sunAtFirst();
        sunDownToZero();
        sunUpToSixty();
        rainFromZeroToSixty();
        umbrellasFromZeroToNine();
        arrearsFromZeroOn();
    }

    /** "There are the towns 0 to 4." */
    private static void townsAreZeroToFour() {
        WeatherMinistry m = fresh("the towns 0 to 4");
        for (int town = 0; town < 5; town++) {
            same(10, m.townOf(town, 0));
        }
        for (int town : NO_TOWNS) {
            same(NONE, m.townOf(town, 0));
        }
    }

    /** "Each has from 0 to 60 hours of sun, at first 10, from 0 to 60 of rain, at first 0, ..." */
    private static void sunAtFirst() {
        WeatherMinistry m = fresh("what a town has at first");
        for (int town = 0; town < 5; town++) {
            same(10, m.townOf(town, 0));
            same(0, m.townOf(town, 1));
            same(2, m.townOf(town, 2));
            same(0, m.townOf(town, 3));
        }
    }

    /** "from 0 ... hours of sun" */
    private static void sunDownToZero() {
        WeatherMinistry spent = fresh("sun down to 0, spent");
        bringToSun(spent, 0, 4);
        spent.buy(0);
        same(0, spent.townOf(0, 0));
        refused(spent, spent.buy(0), 4, 0);
        WeatherMinistry paid = fresh("sun down to 0, paid back");
        bringToSun(paid, 0, 3);
        same(1, paid.account(1));
        paid.credit(0, 1, 6);
        paid.credit(0, 4, 6);
        paid.buy(0);
        same(4, paid.townOf(0, 0));
        same(0, paid.repay(2));
        same(0, paid.townOf(0, 0));
    }

    /** "to 60 hours of sun" */
    private static void sunUpToSixty() {
        WeatherMinistry m = fresh("sun up to 60, on credit");
        bringToSun(m, 0, 59);
        same(59, m.townOf(0, 0));
        refused(m, m.credit(0, 2, 6), 3, 1);
        same(3, m.credit(0, 1, 6));
        same(60, m.townOf(0, 0));
        refused(m, m.credit(0, 1, 6), 3, 0);
        m.month();
        same(60, m.townOf(0, 0));
    }

    /** "from 0 to 60 of rain, at first 0" */
    private static void rainFromZeroToSixty() {
        WeatherMinistry m = fresh("rain from 0 to 60");
        m.rain(0, 20);
        m.rain(0, 20);
        m.rain(0, 19);
        same(59, m.townOf(0, 1));
        m.rain(0, 1);
        same(60, m.townOf(0, 1));
        m.rain(0, 1);
        same(60, m.townOf(0, 1));
        m.rain(1, 1);
        m.month();
        same(0, m.townOf(1, 1));
        same(0, m.townOf(2, 1));
    }

    /** "from 0 to 9 umbrellas, at first 2" */
    private static void umbrellasFromZeroToNine() {
        WeatherMinistry m = fresh("9 umbrellas");
        m.credit(0, 20, 6);
        buyAll(m, 0, 6);
        same(8, m.townOf(0, 2));
        same(9, m.buy(0));
        m.credit(0, 4, 6);
        refused(m, m.buy(0), 1, 9);
        same(9, m.townOf(0, 2));
        WeatherMinistry none = fresh("0 umbrellas");
        bringToArrears(none, 0, 1);
        same(4, none.townOf(0, 2));
        none.bail(0, 4);
        same(0, none.townOf(0, 2));
    }

    /** "and arrears from 0 on, at first 0" */
    private static void arrearsFromZeroOn() {
        WeatherMinistry m = fresh("arrears from 0 on");
        bringToArrears(m, 0, 2);
        same(2, m.townOf(0, 3));
        m.month();
        same(1, m.townOf(0, 3));
        m.month();
        same(0, m.townOf(0, 3));
        m.month();
        same(0, m.townOf(0, 3));
    }

    private static void onTreaties() {
        noTreatiesAtFirst();
        treatiesOfUnlikeTowns();
        rainOfTheTownItself();
        halfForEachTreaty();
        notNearer();
        asLongAsItIsOne();
        moreThanSixtyIsLost();
    }

    /** "Two unlike towns have a treaty, or not, as at first." */
    private static void noTreatiesAtFirst() {
        WeatherMinistry m = fresh("no treaties at first");
        same(0, m.account(2));
        for (int one = 0; one < 5; one++) {
            same(0, m.townOf(one, 5));
            for (int other = 0; other < 5; other++) {
                same(one == other ? 0 : NOTHING, m.far(one, other));
            }
        }
    }

    /** "Two unlike towns have a treaty" */
    private static void treatiesOfUnlikeTowns() {
        WeatherMinistry m = fresh("treaties of unlike towns");
        for (int town = 0; town < 5; town++) {
            refused(m, m.treaty(town, town, true), 8, town);
            same(0, m.townOf(town, 5));
        }
        same(1, m.treaty(3, 1, true));
        same(1, m.far(1, 3));
        same(1, m.far(3, 1));
        same(1, m.townOf(1, 5));
        same(1, m.townOf(3, 5));
    }

    /** "If it rains some hours in a town, it gets so much rain" */
    private static void rainOfTheTownItself() {
        WeatherMinistry m = fresh("rain in the town itself");
        same(1, m.rain(3, 1));
        same(1, m.townOf(3, 1));
        same(20, m.rain(3, 20));
        same(21, m.townOf(3, 1));
        for (int town : new int[] {0, 1, 2, 4}) {
            same(0, m.townOf(town, 1));
        }
    }

    /** "each town that is one treaty away gets half of this, each that is two treaties away ..." */
    private static void halfForEachTreaty() {
        WeatherMinistry m = fresh("half for each treaty");
        makeRow(m);
        same(20 + 10 + 5 + 2 + 1, m.rain(0, 20));
        int[] rains = {20, 10, 5, 2, 1};
        for (int town = 0; town < 5; town++) {
            same(rains[town], m.townOf(town, 1));
        }
        WeatherMinistry star = fresh("half for each of four towns");
        for (int town = 1; town < 5; town++) {
            star.treaty(0, town, true);
        }
        same(20 + 4 * 10, star.rain(0, 20));
        same(20 + 10 + 3 * 5, star.rain(4, 20));
        same(20 + 10, star.townOf(0, 1));
        same(10 + 20, star.townOf(4, 1));
        same(10 + 5, star.townOf(1, 1));
    }

    /** "each that is two treaties away, and not nearer" */
    private static void notNearer() {
        WeatherMinistry ring = fresh("not nearer, in a ring");
        makeRow(ring);
        ring.treaty(4, 0, true);
        same(20 + 10 + 10 + 5 + 5, ring.rain(0, 20));
        int[] rains = {20, 10, 5, 5, 10};
        for (int town = 0; town < 5; town++) {
            same(rains[town], ring.townOf(town, 1));
        }
        WeatherMinistry all = fresh("not nearer, each with each");
        for (int one = 0; one < 5; one++) {
            for (int other = 0; other < one; other++) {
                all.treaty(one, other, true);
            }
        }
        same(60, all.rain(2, 20));
        for (int town = 0; town < 5; town++) {
            same(town == 2 ? 20 : 10, all.townOf(town, 1));
        }
    }

    /** "as long as it is 1 at least" */
    private static void asLongAsItIsOne() {
        WeatherMinistry m = fresh("as long as it is 1 at least");
        makeRow(m);
        int[] hours = {1, 2, 3, 4, 7, 8, 15, 16};
        int[] all = {1, 3, 4, 7, 11, 15, 26, 31};
        int[] last = {0, 0, 0, 0, 0, 0, 0, 1};
        int rain = 0;
        for (int i = 0; i < hours.length; i++) {
            same(all[i], m.rain(0, hours[i]));
            rain += last[i];
            same(rain, m.townOf(4, 1));
            same(last[i], m.drizzle(0, hours[i], 4));
            same(last[i], m.drizzleAgain(0, hours[i], 4));
        }
    }

    /** "What would be more than 60 is lost." */
    private static void moreThanSixtyIsLost() {
        WeatherMinistry m = fresh("more than 60 of rain is lost");
        m.treaty(0, 1, true);
        for (int i = 0; i < 5; i++) {
            m.rain(0, 20);
        }
        same(60, m.townOf(0, 1));
        same(50, m.townOf(1, 1));
        m.rain(1, 9);
        same(59, m.townOf(1, 1));
        same(22, m.rain(0, 15));
        same(60, m.townOf(1, 1));
        same(30, m.rain(0, 20));
        same(60, m.townOf(1, 1));
        same(120, m.account(4));
    }

    private static void onCredit() {
        hoursAtOnce();
        dueInOneToSixMonths();
        atMostEightCredits();
        laterNumbersBecomeOneLess();
        severalEndAtOnce();
        noCreditWithArrears();
        paidBackEarlier();
    }

    /** "A town can take hours of sun on credit, 1 to 20, which it gets at once" */
    private static void hoursAtOnce() {
        WeatherMinistry m = fresh("1 to 20 hours at once");
        same(BAD, m.credit(0, 0, 1));
        same(10, m.townOf(0, 0));
        same(0, m.credit(0, 1, 1));
        same(11, m.townOf(0, 0));
        same(1, m.credit(0, 20, 1));
        same(31, m.townOf(0, 0));
        same(BAD, m.credit(0, 21, 1));
        same(31, m.townOf(0, 0));
        same(10, m.townOf(1, 0));
    }

    /** "which are due in 1 to 6 months" */
    private static void dueInOneToSixMonths() {
        WeatherMinistry m = fresh("due in 1 to 6 months");
        same(BAD, m.credit(0, 1, 0));
        same(BAD, m.credit(0, 1, 7));
        same(0, m.credit(0, 1, 1));
        same(1, m.credit(1, 1, 6));
        same(1, m.creditOf(0, 2));
        same(6, m.creditOf(1, 2));
        m.month();
        same("1*1@6", credits(m));
        months(m, 4);
        same("1*1@6", credits(m));
        m.month();
        same("", credits(m));
    }

    /** "At most 8 credits are there, numbered from 0 in the order in which they were taken" */
    private static void atMostEightCredits() {
        WeatherMinistry m = fresh("at most 8 credits");
        for (int i = 0; i < 8; i++) {
            same(i, m.credit(i % 5, i + 1, 6 - i % 6));
        }
        refused(m, m.credit(4, 1, 1), 1, 8);
        same(8, m.account(1));
        same("0*1@6 1*2@5 2*3@4 3*4@3 4*5@2 0*6@1 1*7@6 2*8@5", credits(m));
        m.repay(3);
        same(7, m.credit(4, 1, 1));
        refused(m, m.credit(0, 1, 1), 1, 8);
    }

    /** "when one ends, the numbers of the later ones become 1 less" */
    private static void laterNumbersBecomeOneLess() {
        WeatherMinistry m = fresh("when the first, the last or one between them ends");
        for (int i = 0; i < 5; i++) {
            m.credit(i, i + 1, 6);
        }
        m.repay(0);
        same("1*2@6 2*3@6 3*4@6 4*5@6", credits(m));
        m.repay(3);
        same("1*2@6 2*3@6 3*4@6", credits(m));
        m.repay(1);
        same("1*2@6 3*4@6", credits(m));
        same(NONE, m.creditOf(2, 0));
        same(2, m.credit(0, 1, 1));
    }

    /** "when one ends, ..." by a month, of which several do at once. */
    private static void severalEndAtOnce() {
        WeatherMinistry m = fresh("several end at once");
        for (int i = 0; i < 8; i++) {
            m.credit(i % 5, i + 1, i % 2 + 1);
        }
        same(0, m.month());
        same("1*2@2 3*4@2 0*6@2 2*8@2", credits(m));
        same(0, m.month());
        same("", credits(m));
        same(0, m.credit(0, 1, 1));
    }

    /** "A town that has arrears gets no credit." */
    private static void noCreditWithArrears() {
        WeatherMinistry m = fresh("no credit with arrears");
        bringToArrears(m, 2, 1);
        refused(m, m.credit(2, 1, 1), 2, 1);
        same(0, m.credit(1, 1, 1));
        same(0, m.bail(2, 1));
        same(1, m.credit(2, 1, 1));
        WeatherMinistry later = fresh("a credit as soon as there are no arrears");
        bringToArrears(later, 2, 1);
        later.month();
        same(0, later.townOf(2, 3));
        same(0, later.credit(2, 1, 1));
    }

    /** "A credit can be paid back earlier." */
    private static void paidBackEarlier() {
        WeatherMinistry m = fresh("paid back earlier");
        m.credit(0, 20, 6);
        same(10, m.repay(0));
        m.credit(0, 20, 6);
        months(m, 5);
        same(1, m.creditOf(0, 3));
        same(25, m.repay(0));
        same(0, m.month());
        same(30, m.townOf(0, 0));
        same(0, m.account(12));
    }

    private static void onMonths() {
        monthsFromZero();
        sunJustEnough();
        oneHourLacking();
        noSunAtAll();
        oneAfterTheOther();
        rainsTwiceAsMuch();
        eachFiveStones();
        hourOfSunInPlaceOfUmbrella();
        umbrellasAndSunTogether();
        neitherUmbrellaNorSun();
        arrearsOneLess();
        sunOfTheMonths();
        sunUpToSixtyByMonths();
        orderOfAMonth();
        rainThreeLess();
    }

    /** "The months are numbered from 0. When a month goes by, it is the next one." */
    private static void monthsFromZero() {
        WeatherMinistry m = fresh("months from 0");
        for (int month = 0; month < 40; month++) {
            same(month, m.account(0));
            m.month();
        }
    }

    /** "if the town has so much sun, it pays that" */
    private static void sunJustEnough() {
        WeatherMinistry m = fresh("sun just enough");
        m.credit(0, 12, 1);
        buyAll(m, 0, 2);
        m.credit(0, 2, 6);
        m.buy(0);
        same(12, m.townOf(0, 0));
        same(0, m.month());
        same("0:1s0r5u", town(m, 0));
        same(12, m.account(8));
        same(1, m.account(13));
        same(0, m.account(11));
    }

    /** "otherwise it pays all that it has, its arrears become more by what is lacking" */
    private static void oneHourLacking() {
        WeatherMinistry m = fresh("one hour lacking");
        bringToLack(m, 0, 1);
        same(19, m.townOf(0, 0));
        same(1, m.month());
        // The arrears of 1 break an umbrella, and become 1 less.
        same("0:1s0r4u", town(m, 0));
        same(19, m.account(8));
        same(1, m.account(10));
        same(2, m.account(11));
        same(1, m.account(12));
        same(0, m.account(13));
    }

    /** "otherwise it pays all that it has": nothing, if it has none. */
    private static void noSunAtAll() {
        WeatherMinistry m = fresh("no sun at all");
        m.credit(0, 2, 1);
        buyAll(m, 0, 3);
        same(0, m.townOf(0, 0));
        same(1, m.month());
        same("0:1s1r4u1a", town(m, 0));
        same(0, m.account(8));
        same(4, m.account(11));
    }

    /** "First the credits that are due in it end, one after the other" */
    private static void oneAfterTheOther() {
        WeatherMinistry m = fresh("one after the other");
        m.credit(0, 6, 1);
        m.credit(1, 4, 1);
        m.credit(0, 7, 1);
        m.credit(0, 1, 1);
        buyAll(m, 0, 4);
        same(8, m.townOf(0, 0));
        // 6 are paid, then 2 of 7, and nothing of 1.
        same(2, m.month());
        same(4, m.account(12));
        same(2, m.account(13));
        same(12, m.account(8));
        same(12, m.account(11));
        same("0:1s9r4u5a", town(m, 0));
        same("1:11s0r2u", town(m, 1));
    }

    /** "and it rains there twice as much as is lacking" */
    private static void rainsTwiceAsMuch() {
        WeatherMinistry m = fresh("it rains twice as much");
        makeRow(m);
        bringToLack(m, 0, 18);
        m.month();
        int[] rains = {36 - 3, 18 - 3, 9 - 3, 4 - 3, 0};
        for (int town = 0; town < 5; town++) {
            same(rains[town], m.townOf(town, 1));
        }
        same(36, m.account(11));
    }

    /** "each 5 stones, begun ones included, break an umbrella" */
    private static void eachFiveStones() {
        int[] arrears = {1, 4, 5, 6, 10, 11, 15, 16, 17};
        int[] broken = {1, 1, 1, 2, 2, 3, 3, 4, 4};
        for (int i = 0; i < arrears.length; i++) {
            WeatherMinistry m = fresh("the hail of arrears of " + arrears[i]);
            bringToArrears(m, 3, arrears[i]);
            same(arrears[i], m.townOf(3, 3));
            int before = m.townOf(3, 2);
            int brokenBefore = m.account(10);
            m.month();
            same(before - broken[i], m.townOf(3, 2));
            same(brokenBefore + broken[i], m.account(10));
            same(arrears[i] - 1, m.townOf(3, 3));
            same(0, m.account(9));
        }
    }

    /** "or take an hour of sun if there is no umbrella left and there is sun" */
    private static void hourOfSunInPlaceOfUmbrella() {
        WeatherMinistry m = fresh("an hour of sun in place of an umbrella");
        bringToArrears(m, 0, 17);
        same(2, m.bail(0, 5));
        same("0:1s33r0u2a", town(m, 0));
        m.month();
        // The one hour is taken, then come the two of the month 2.
        same("0:2s30r0u1a", town(m, 0));
        same(1, m.account(9));
        same(4, m.account(10));
        m.month();
        same("0:4s27r0u", town(m, 0));
        same(2, m.account(9));
        m.month();
        same(8, m.townOf(0, 0));
        same(2, m.account(9));
    }

    /** "if there is no umbrella left": the last one is broken, and then sun is taken. */
    private static void umbrellasAndSunTogether() {
        WeatherMinistry m = fresh("the last umbrella and then sun");
        bringToArrears(m, 0, 17);
        same(5, m.bail(0, 4));
        same("0:1s33r1u5a", town(m, 0));
        m.month();
        same("0:3s30r0u4a", town(m, 0));
        same(0, m.account(9));
        WeatherMinistry two = fresh("the last umbrella and an hour of sun at once");
        bringToLack(two, 0, 16);
        two.month();
        same("0:1s29r5u15a", town(two, 0));
        same(9, two.bail(0, 2));
        two.month();
        same("0:3s26r1u8a", town(two, 0));
        int broken = two.account(10);
        two.month();
        same("0:5s23r0u7a", town(two, 0));
        same(1, two.account(9));
        same(broken + 1, two.account(10));
    }

    /** "and there is sun": if there is none either, nothing is broken or taken. */
    private static void neitherUmbrellaNorSun() {
        WeatherMinistry m = fresh("neither umbrella nor sun");
        m.credit(0, 20, 1);
        m.credit(0, 20, 2);
        m.credit(0, 10, 3);
        buyAll(m, 0, 7);
        same(32, m.townOf(0, 0));
        same(0, m.month());
        same(1, m.month());
        same("0:2s11r7u6a", town(m, 0));
        same(0, m.bail(0, 7));
        same(2, m.account(10));
        // 2 of 10 are paid; the hail of 8 stones finds nothing.
        same(1, m.month());
        same("0:3s24r0u7a", town(m, 0));
        same(2, m.account(10));
        same(0, m.account(9));
        same(2 * 7 + 2 * 8, m.account(11));
        same(true, m.isCounted());
    }

    /** "and the arrears become 1 less" */
    private static void arrearsOneLess() {
        WeatherMinistry m = fresh("arrears become 1 less");
        bringToArrears(m, 1, 17);
        for (int arrears = 16; arrears >= 0; arrears--) {
            m.month();
            same(arrears, m.townOf(1, 3));
        }
        m.month();
        same(0, m.townOf(1, 3));
        same(true, m.isCounted());
    }

    /** "1, 1, 2, 3, 4, 5, 5, 4, 3, 2, 1 and 1, by what is left when ... divided by 12" */
    private static void sunOfTheMonths() {
        int[] suns = {1, 1, 2, 3, 4, 5, 5, 4, 3, 2, 1, 1};
        for (int month = 1; month <= 50; month++) {
            WeatherMinistry m = fresh("the sun of the month " + month);
            months(m, month - 1);
            buyAll(m, 4, 2);
            int sun = m.townOf(4, 0);
            m.month();
            same(suns[month % 12], m.townOf(4, 0) - sun);
        }
        WeatherMinistry late = fresh("the sun of the month 480");
        months(late, 479);
        late.buy(4);
        same(56, late.townOf(4, 0));
        late.month();
        same(57, late.townOf(4, 0));
    }

    /** "Then each town gets the sun of the new month, up to 60 ...; what is more is lost." */
    private static void sunUpToSixtyByMonths() {
        int[] suns = {57, 58, 59, 60};
        for (int sun : suns) {
            WeatherMinistry m = fresh("the sun of a month on top of " + sun);
            m.month();
            bringToSun(m, 0, sun - 1);
            same(sun, m.townOf(0, 0));
            int got = m.account(7);
            m.month();
            same(Math.min(60, sun + 2), m.townOf(0, 0));
            same(got + Math.min(2, 60 - sun) + 4 * 2, m.account(7));
            same(true, m.isCounted());
        }
    }

    /** "First ... Then ... Then": what is due is paid without the sun of the month, and so is hail. */
    private static void orderOfAMonth() {
        WeatherMinistry m = fresh("paid before the sun of the month");
        months(m, 4);
        m.credit(0, 4, 1);
        bringDown(m);
        same(2, m.townOf(0, 0));
        // Due are 4, and the sun of the month 5 would be 5.
        same(1, m.month());
        same("0:5s1r7u1a", town(m, 0));
        WeatherMinistry hail = fresh("hail before the sun of the month");
        hail.credit(0, 20, 1);
        hail.credit(0, 20, 2);
        buyAll(hail, 0, 7);
        hail.month();
        same("0:3s0r9u", town(hail, 0));
        // 3 of 20 are paid; then come the hail of 17 stones and the 2 hours of the month 2.
        hail.month();
        same("0:2s31r5u16a", town(hail, 0));
        WeatherMinistry rain = fresh("rain of a month dries with that month");
        bringToLack(rain, 0, 2);
        rain.month();
        same(4 - 3, rain.townOf(0, 1));
    }

    /** 20 and 4 hours: umbrellas for 24 of them, and 2 hours that come on another credit. */
    private static void bringDown(WeatherMinistry m) {
        same(24, m.townOf(0, 0));
        m.credit(0, 2, 6);
        buyAll(m, 0, 6);
    }

    /** "Then the rain of each town becomes 3 less, but not below 0." */
    private static void rainThreeLess() {
        WeatherMinistry m = fresh("rain becomes 3 less");
        for (int town = 1; town < 5; town++) {
            m.rain(town, town);
        }
        m.month();
        int[] rains = {0, 0, 0, 0, 1};
        for (int town = 0; town < 5; town++) {
            same(rains[town], m.townOf(town, 1));
        }
        m.month();
        same(0, m.account(4));
    }

    private static void onBail() {
        threeLess();
        priceOfAnUmbrella();
    }

    /** "Each umbrella that is given as bail makes arrears 3 less, but not below 0." */
    private static void threeLess() {
        int[] before = {1, 2, 3, 4, 5, 6, 7};
        int[] afterOne = {0, 0, 0, 1, 2, 3, 4};
        int[] afterTwo = {0, 0, 0, 0, 0, 0, 1};
        for (int i = 0; i < before.length; i++) {
            WeatherMinistry one = fresh("one umbrella for arrears of " + before[i]);
            bringToArrears(one, 4, before[i]);
            same(afterOne[i], one.bail(4, 1));
            same(afterOne[i], one.townOf(4, 3));
            WeatherMinistry two = fresh("two umbrellas for arrears of " + before[i]);
            bringToArrears(two, 4, before[i]);
            same(afterTwo[i], two.bail(4, 2));
            same(afterTwo[i], two.townOf(4, 3));
        }
    }

    /** "An umbrella costs 4 hours of sun." */
    private static void priceOfAnUmbrella() {
        for (int sun = 0; sun < 4; sun++) {
            WeatherMinistry m = fresh("an umbrella for " + sun + " hours");
            bringToSun(m, 0, sun);
            refused(m, m.buy(0), 4, sun);
            same(sun, m.townOf(0, 0));
        }
        for (int sun = 4; sun < 6; sun++) {
            WeatherMinistry m = fresh("an umbrella for " + sun + " hours");
            bringToSun(m, 0, sun);
            int umbrellas = m.townOf(0, 2);
            same(umbrellas + 1, m.buy(0));
            same(sun - 4, m.townOf(0, 0));
        }
    }
}
