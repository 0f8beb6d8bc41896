/**
 * A ministry for borrowed weather: towns, treaties by which rain drizzles on, and sun on credit.
 * The numbered promises of ../shared/DOC.md say what every call answers.
 */
public final class WeatherMinistry {
    public static final int NONE = -1;
    public static final int BAD = -2;
    public static final int STATE = -3;
    public static final int FULL = -4;
    public static final int REFUSED = -5;
    public static final int NOTHING = -6;

    private static final int TOWNS = 5;
    private static final int FIRST_SUN = 10;
    private static final int FIRST_UMBRELLAS = 2;
    private static final int MOST_SUN = 60;
    private static final int MOST_RAIN = 60;
    private static final int MOST_UMBRELLAS = 9;
    private static final int UMBRELLA_PRICE = 4;
    private static final int BAIL_WORTH = 3;
    private static final int STONES_FOR_A_BREAK = 5;
    private static final int DRIED_IN_A_MONTH = 3;
    private static final int MOST_CREDITS = 8;
    private static final int MOST_HOURS = 20;
    private static final int MOST_MONTHS = 6;
    private static final int MOST_MONTHS_AHEAD = 24;
    private static final int MOST_CHANGES = 8;
    private static final int MOST_SIGNS = 60;
    private static final int MOST_COMMANDS = 12;
    private static final int MOST_NUMBERS = 3;
    private static final int[] SUN_OF_MONTHS = {1, 1, 2, 3, 4, 5, 5, 4, 3, 2, 1, 1};

    private static final int TREATY = 0;
    private static final int END = 1;
    private static final int CREDIT = 2;
    private static final int REPAY = 3;
    private static final int RAIN = 4;
    private static final int BAIL = 5;
    private static final int BUY = 6;
    private static final int MONTH = 7;
    private static final int KINDS = 8;

    private static final int IS_FULL = 1;
    private static final int HAS_ARREARS = 2;
    private static final int TOO_MUCH_SUN = 3;
    private static final int TOO_LITTLE_SUN = 4;
    private static final int NO_ARREARS = 5;
    private static final int TOO_FEW_UMBRELLAS = 6;
    private static final int IS_SO = 7;
    private static final int ONE_TOWN = 8;
    private static final int BAD_COMMAND = 9;

    private final Realm now = new Realm();
    private final Realm before = new Realm();
    private final Realm trial = new Realm();
    private final Realm saved = new Realm();
    private boolean isSaved = false;
    private final History history = new History();
    private final Text text = new Text();
    private final StringBuilder line = new StringBuilder();
    private final Reason latest = new Reason();
    private int faultPosition = STATE;

    public WeatherMinistry() {
    }

    public int treaty(int one, int other, boolean isThen) {
        return change(isThen ? TREATY : END, one, other, 0);
    }

    public int credit(int town, int hours, int months) {
        return change(CREDIT, town, hours, months);
    }

    public int repay(int credit) {
        return change(REPAY, credit, 0, 0);
    }

    public int rain(int town, int hours) {
        return change(RAIN, town, hours, 0);
    }

    public int bail(int town, int umbrellas) {
        return change(BAIL, town, umbrellas, 0);
    }

    public int buy(int town) {
        return change(BUY, town, 0, 0);
    }

    public int month() {
        return change(MONTH, 0, 0, 0);
    }

    public int townOf(int town, int what) {
        if (!isTown(town)) {
            return NONE;
        }
        switch (what) {
            case 4:
                return now.credits.countOf(town);
            case 5:
                return now.treaties.partnersOf(town);
            case 6:
                return now.treaties.ledToFrom(town);
            default:
                return now.weatherOf(town, what);
        }
    }

    public int creditOf(int credit, int what) {
        if (!now.credits.isThere(credit)) {
            return NONE;
        }
        switch (what) {
            case 0:
                return now.credits.towns[credit];
            case 1:
                return now.credits.hours[credit];
            case 2:
                return now.credits.ends[credit];
            case 3:
                return now.credits.ends[credit] - now.month;
            default:
                return BAD;
        }
    }

    public int owes(int town) {
        return isTown(town) ? now.credits.owedBy(town) : NONE;
    }

    public int owesAgain(int town) {
        return isTown(town) ? now.owedByMonths(town) : NONE;
    }

    public int due(int months) {
        if (months < 0 || months > MOST_MONTHS) {
            return BAD;
        }
        int hours = 0;
        for (int town = 0; town < TOWNS; town++) {
            hours += now.credits.owedIn(town, now.month + months);
        }
        return hours;
    }

    public int far(int one, int other) {
        return isTown(one) && isTown(other) ? now.treaties.stepsBetween(one, other) : NONE;
    }

    public int drizzle(int in, int hours, int at) {
        if (!isTown(in) || !isTown(at)) {
            return NONE;
        }
        if (!isHours(hours)) {
            return BAD;
        }
        now.treaties.spread(in, hours);
        return now.treaties.drizzled[at];
    }

    public int drizzleAgain(int in, int hours, int at) {
        if (!isTown(in) || !isTown(at)) {
            return NONE;
        }
        return isHours(hours) ? now.treaties.halvedBySteps(in, hours, at) : BAD;
    }

    public int would(int town, int months, int what) {
        if (!isTown(town)) {
            return NONE;
        }
        if (months < 0 || months > MOST_MONTHS_AHEAD) {
            return BAD;
        }
        trial.copyFrom(now);
        for (int i = 0; i < months; i++) {
            trial.pass();
        }
        return trial.weatherOf(town, what);
    }

    public int most(int town, int months) {
        if (!isTown(town)) {
            return NONE;
        }
        if (!isMonths(months)) {
            return BAD;
        }
        if (now.arrears[town] > 0 || now.credits.count >= MOST_CREDITS) {
            return 0;
        }
        for (int hours = Math.min(MOST_HOURS, MOST_SUN - now.sun[town]); hours > 0; hours--) {
            if (wouldBePaid(town, hours, months)) {
                return hours;
            }
        }
        return 0;
    }

    public int ranked(int place) {
        for (int town = 0; town < TOWNS; town++) {
            if (now.rankOf(town) == place) {
                return town;
            }
        }
        return NONE;
    }

    public int next(int place) {
        for (int credit = 0; credit < now.credits.count; credit++) {
            if (now.credits.placeOf(credit) == place) {
                return credit;
            }
        }
        return NONE;
    }

    public boolean isCounted() {
        return isOwedAlike() && isDrizzleAlike() && now.isSunCounted();
    }

    public double meanSun() {
        return (double) sumOf(now.sun) / (double) TOWNS;
    }

    public float paidShare() {
        if (now.books.ended == 0) {
            return 0.0f;
        }
        return (float) now.books.endedInFull / (float) now.books.ended;
    }

    public int account(int what) {
        switch (what) {
            case 0:
                return now.month;
            case 1:
                return now.credits.count;
            case 2:
                return now.treaties.countAll();
            case 3:
                return sumOf(now.sun);
            case 4:
                return sumOf(now.rain);
            case 5:
                return sumOf(now.arrears);
            case 6:
                return sumOf(now.umbrellas);
            case 14:
                return text.signs.length();
            case 15:
                return history.count;
            default:
                return now.books.entryOf(what);
        }
    }

    public int write(int town) {
        if (!isTown(town)) {
            return NONE;
        }
        line.setLength(0);
        line.append(town).append(':');
        line.append(now.sun[town]).append('s');
        line.append(now.rain[town]).append('r');
        line.append(now.umbrellas[town]).append('u');
        if (now.arrears[town] > 0) {
            line.append(now.arrears[town]).append('a');
        }
        return line.length();
    }

    public int writeCredits() {
        line.setLength(0);
        for (int credit = 0; credit < now.credits.count; credit++) {
            if (credit > 0) {
                line.append(' ');
            }
            line.append(now.credits.towns[credit]).append('*');
            line.append(now.credits.hours[credit]).append('@');
            line.append(now.credits.ends[credit]);
        }
        return line.length();
    }

    public int written(int index) {
        return index >= 0 && index < line.length() ? line.charAt(index) : NONE;
    }

    public int append(char character) {
        if (character < 32 || character > 126) {
            return BAD;
        }
        if (text.signs.length() >= MOST_SIGNS) {
            return FULL;
        }
        text.signs.append(character);
        return text.signs.length();
    }

    public int read() {
        boolean isText = text.isWellFormed();
        text.signs.setLength(0);
        if (!isText) {
            faultPosition = text.at;
            return BAD;
        }
        before.copyFrom(now);
        for (int i = 0; i < text.count; i++) {
            int[] numbers = text.numbers[i];
            int answer = perform(text.kinds[i], numbers[0], numbers[1], numbers[2]);
            if (answer < 0) {
                now.copyFrom(before);
                return latest.keepOfCommand(i, answer == REFUSED);
            }
        }
        history.keep(before);
        return text.count;
    }

    public int fault() {
        return faultPosition;
    }

    public int reason(int depth, boolean isDetail) {
        if (depth < 0 || depth > 1) {
            return BAD;
        }
        if (latest.number == 0) {
            return STATE;
        }
        if (depth == 0) {
            return isDetail ? latest.detail : latest.number;
        }
        if (latest.numberBehind == 0) {
            return NOTHING;
        }
        return isDetail ? latest.detailBehind : latest.numberBehind;
    }

    public int undo() {
        if (history.count == 0) {
            return STATE;
        }
        history.takeBack(now);
        return history.count;
    }

    public int save() {
        saved.copyFrom(now);
        isSaved = true;
        return now.month;
    }

    public int restore() {
        if (!isSaved) {
            return STATE;
        }
        now.copyFrom(saved);
        history.count = 0;
        return now.month;
    }

    private static boolean isTown(int town) {
        return town >= 0 && town < TOWNS;
    }

    private static boolean isHours(int hours) {
        return hours >= 1 && hours <= MOST_HOURS;
    }

    private static boolean isMonths(int months) {
        return months >= 1 && months <= MOST_MONTHS;
    }

    private static int sumOf(int[] numbers) {
        int sum = 0;
        for (int number : numbers) {
            sum += number;
        }
        return sum;
    }

    private int change(int kind, int first, int second, int third) {
        before.copyFrom(now);
        int answer = perform(kind, first, second, third);
        if (answer >= 0) {
            history.keep(before);
        }
        return answer;
    }

    /** Does one command, or changes nothing but the latest reason and returns an error. */
    private int perform(int kind, int first, int second, int third) {
        switch (kind) {
            case TREATY:
                return agree(first, second, true);
            case END:
                return agree(first, second, false);
            case CREDIT:
                return lend(first, second, third);
            case REPAY:
                return takeBack(first);
            case RAIN:
                return pour(first, second);
            case BAIL:
                return pledge(first, second);
            case BUY:
                return sell(first);
            default:
                return now.pass();
        }
    }

    private int agree(int one, int other, boolean isThen) {
        if (!isTown(one) || !isTown(other)) {
            return NONE;
        }
        if (one == other) {
            return latest.keep(ONE_TOWN, one);
        }
        if (now.treaties.isBetween(one, other) == isThen) {
            return latest.keep(IS_SO, isThen ? 1 : 0);
        }
        now.treaties.turn(one, other);
        return now.treaties.countAll();
    }

    private int lend(int town, int hours, int months) {
        if (!isTown(town)) {
            return NONE;
        }
        if (!isHours(hours) || !isMonths(months)) {
            return BAD;
        }
        if (now.arrears[town] > 0) {
            return latest.keep(HAS_ARREARS, now.arrears[town]);
        }
        if (now.credits.count >= MOST_CREDITS) {
            return latest.keep(IS_FULL, now.credits.count);
        }
        if (now.sun[town] + hours > MOST_SUN) {
            return latest.keep(TOO_MUCH_SUN, MOST_SUN - now.sun[town]);
        }
        now.giveCredit(town, hours, months);
        return now.credits.count - 1;
    }

    private int takeBack(int credit) {
        if (!now.credits.isThere(credit)) {
            return NONE;
        }
        int town = now.credits.towns[credit];
        int hours = now.credits.hours[credit];
        if (!isTown(town)) {
            return NONE;
        }
        if (now.sun[town] < hours) {
            return latest.keep(TOO_LITTLE_SUN, now.sun[town]);
        }
        now.sun[town] -= hours;
        now.books.paid += hours;
        now.credits.remove(credit);
        return now.sun[town];
    }

    private int pour(int town, int hours) {
        if (!isTown(town)) {
            return NONE;
        }
        return isHours(hours) ? now.letRain(town, hours) : BAD;
    }

    private int pledge(int town, int umbrellas) {
        if (!isTown(town)) {
            return NONE;
        }
        if (umbrellas < 1 || umbrellas > MOST_UMBRELLAS) {
            return BAD;
        }
        if (now.arrears[town] == 0) {
            return latest.keep(NO_ARREARS, now.umbrellas[town]);
        }
        if (now.umbrellas[town] < umbrellas) {
            return latest.keep(TOO_FEW_UMBRELLAS, now.umbrellas[town]);
        }
        now.umbrellas[town] -= umbrellas;
        now.arrears[town] = Math.max(0, now.arrears[town] - BAIL_WORTH * umbrellas);
        return now.arrears[town];
    }

    private int sell(int town) {
        if (!isTown(town)) {
            return NONE;
        }
        if (now.umbrellas[town] >= MOST_UMBRELLAS) {
            return latest.keep(IS_FULL, now.umbrellas[town]);
        }
        if (now.sun[town] < UMBRELLA_PRICE) {
            return latest.keep(TOO_LITTLE_SUN, now.sun[town]);
        }
        now.sun[town] -= UMBRELLA_PRICE;
        now.books.spent += UMBRELLA_PRICE;
        now.umbrellas[town]++;
        return now.umbrellas[town];
    }

    /**
     * A new credit has the highest number, so it ends after all others of its month: it is paid in
     * full just if the sun is enough for all that the town has to pay then.
     */
    private boolean wouldBePaid(int town, int hours, int months) {
        if (!isTown(town)) {
            return false;
        }
        trial.copyFrom(now);
        trial.giveCredit(town, hours, months);
        for (int i = 1; i < months; i++) {
            trial.pass();
        }
        return trial.sun[town] >= trial.credits.owedIn(town, trial.month + 1);
    }

    private boolean isOwedAlike() {
        for (int town = 0; town < TOWNS; town++) {
            if (now.credits.owedBy(town) != now.owedByMonths(town)) {
                return false;
            }
        }
        return true;
    }

    private boolean isDrizzleAlike() {
        for (int in = 0; in < TOWNS; in++) {
            now.treaties.spread(in, MOST_HOURS);
            for (int at = 0; at < TOWNS; at++) {
                if (now.treaties.drizzled[at] != now.treaties.halvedBySteps(in, MOST_HOURS, at)) {
                    return false;
                }
            }
        }
        return true;
    }

    /** Everything that can be undone and saved. */
    private static final class Realm {
        int month = 0;
        final int[] sun = new int[TOWNS];
        final int[] rain = new int[TOWNS];
        final int[] umbrellas = new int[TOWNS];
        final int[] arrears = new int[TOWNS];
        final Treaties treaties = new Treaties();
        final Credits credits = new Credits();
        final Books books = new Books();

        Realm() {
            for (int town = 0; town < TOWNS; town++) {
                sun[town] = FIRST_SUN;
                umbrellas[town] = FIRST_UMBRELLAS;
            }
        }

        void copyFrom(Realm other) {
            month = other.month;
            System.arraycopy(other.sun, 0, sun, 0, TOWNS);
            System.arraycopy(other.rain, 0, rain, 0, TOWNS);
            System.arraycopy(other.umbrellas, 0, umbrellas, 0, TOWNS);
            System.arraycopy(other.arrears, 0, arrears, 0, TOWNS);
            treaties.copyFrom(other.treaties);
            credits.copyFrom(other.credits);
            books.copyFrom(other.books);
        }

        int weatherOf(int town, int what) {
            if (!isTown(town)) {
                return NONE;
            }
            switch (what) {
                case 0:
                    return sun[town];
                case 1:
                    return rain[town];
                case 2:
                    return umbrellas[town];
                case 3:
                    return arrears[town];
                default:
                    return BAD;
            }
        }

        /** How many towns come ahead of a town by their arrears. */
        int rankOf(int town) {
            int ahead = 0;
            for (int other = 0; other < TOWNS; other++) {
                if (comesAhead(other, town)) {
                    ahead++;
                }
            }
            return ahead;
        }

        private boolean comesAhead(int one, int other) {
            if (!isTown(one) || !isTown(other)) {
                return false;
            }
            if (arrears[one] != arrears[other]) {
                return arrears[one] > arrears[other];
            }
            return sun[one] != sun[other] ? sun[one] < sun[other] : one < other;
        }

        int owedByMonths(int town) {
            int hours = 0;
            for (int months = 0; months <= MOST_MONTHS; months++) {
                hours += credits.owedIn(town, month + months);
            }
            return hours;
        }

        boolean isSunCounted() {
            int had = TOWNS * FIRST_SUN + books.got;
            return had == sumOf(sun) + books.paid + books.spent + books.taken;
        }

        void giveCredit(int town, int hours, int months) {
            if (isTown(town)) {
                sun[town] += hours;
                books.got += hours;
                credits.add(town, hours, month + months);
            }
        }

        /** Returns what all towns get together, what is lost included. */
        int letRain(int town, int hours) {
            treaties.spread(town, hours);
            int all = 0;
            for (int at = 0; at < TOWNS; at++) {
                rain[at] = Math.min(MOST_RAIN, rain[at] + treaties.drizzled[at]);
                all += treaties.drizzled[at];
            }
            return all;
        }

        /** Lets a month go by and returns how many credits were not paid in full. */
        int pass() {
            month++;
            int unpaid = endCredits();
            for (int town = 0; town < TOWNS; town++) {
                if (arrears[town] > 0) {
                    letHail(town);
                }
            }
            int shine = SUN_OF_MONTHS[Math.floorMod(month, SUN_OF_MONTHS.length)];
            for (int town = 0; town < TOWNS; town++) {
                int gained = Math.min(shine, MOST_SUN - sun[town]);
                sun[town] += gained;
                books.got += gained;
                rain[town] = Math.max(0, rain[town] - DRIED_IN_A_MONTH);
            }
            return unpaid;
        }

        private int endCredits() {
            int unpaid = 0;
            int kept = 0;
            for (int credit = 0; credit < credits.count; credit++) {
                if (credits.ends[credit] != month) {
                    credits.move(credit, kept);
                    kept++;
                } else {
                    int lacking = payFor(credits.towns[credit], credits.hours[credit]);
                    if (lacking > 0) {
                        unpaid++;
                        letRain(credits.towns[credit], 2 * lacking);
                    }
                }
            }
            credits.count = kept;
            return unpaid;
        }

        /** Lets a town pay what is due, as far as it can, and returns what is lacking. */
        private int payFor(int town, int hours) {
            if (!isTown(town)) {
                return 0;
            }
            int paid = Math.min(sun[town], hours);
            int lacking = hours - paid;
            sun[town] -= paid;
            arrears[town] += lacking;
            books.paid += paid;
            books.rainedBack += 2 * lacking;
            books.ended++;
            if (lacking == 0) {
                books.endedInFull++;
            }
            return lacking;
        }

        private void letHail(int town) {
            if (!isTown(town)) {
                return;
            }
            int hits = (arrears[town] + STONES_FOR_A_BREAK - 1) / STONES_FOR_A_BREAK;
            int broken = Math.min(hits, umbrellas[town]);
            int taken = Math.min(hits - broken, sun[town]);
            umbrellas[town] -= broken;
            sun[town] -= taken;
            arrears[town]--;
            books.broken += broken;
            books.taken += taken;
        }
    }

    /** Which towns have treaties, and the ways that rain takes along them. */
    private static final class Treaties {
        // Bit b of partners[a] tells whether the towns a and b have a treaty.
        final int[] partners = new int[TOWNS];
        final int[] drizzled = new int[TOWNS];

        void copyFrom(Treaties other) {
            System.arraycopy(other.partners, 0, partners, 0, TOWNS);
        }

        boolean isBetween(int one, int other) {
            return isTown(one) && isTown(other) && (partners[one] >> other & 1) == 1;
        }

        void turn(int one, int other) {
            if (isTown(one) && isTown(other)) {
                partners[one] ^= 1 << other;
                partners[other] ^= 1 << one;
            }
        }

        int partnersOf(int town) {
            return isTown(town) ? Integer.bitCount(partners[town]) : 0;
        }

        int countAll() {
            int ends = 0;
            for (int town = 0; town < TOWNS; town++) {
                ends += partnersOf(town);
            }
            return ends / 2;
        }

        private int withPartners(int towns) {
            int all = towns;
            for (int town = 0; town < TOWNS; town++) {
                if ((towns >> town & 1) == 1) {
                    all |= partners[town];
                }
            }
            return all;
        }

        int ledToFrom(int town) {
            int reached = 1 << town;
            for (int steps = 1; steps < TOWNS; steps++) {
                reached = withPartners(reached);
            }
            return Integer.bitCount(reached) - 1;
        }

        int stepsBetween(int one, int other) {
            int reached = 1 << one;
            for (int steps = 0; steps < TOWNS; steps++) {
                if ((reached >> other & 1) == 1) {
                    return steps;
                }
                reached = withPartners(reached);
            }
            return NOTHING;
        }

        int halvedBySteps(int in, int hours, int at) {
            int steps = stepsBetween(in, at);
            return steps == NOTHING ? 0 : hours >> steps;
        }

        /**
         * Fills drizzled. Each round hands half of what a town gets to its partners; the most that
         * comes to a town came by the fewest treaties.
         */
        void spread(int in, int hours) {
            for (int town = 0; town < TOWNS; town++) {
                drizzled[town] = town == in ? hours : 0;
            }
            for (int round = 1; round < TOWNS; round++) {
                for (int town = 0; town < TOWNS; town++) {
                    int half = drizzled[town] / 2;
                    for (int other = 0; other < TOWNS; other++) {
                        if ((partners[town] >> other & 1) == 1 && drizzled[other] < half) {
                            drizzled[other] = half;
                        }
                    }
                }
            }
        }
    }

    /** The credits, in the order in which they were taken. */
    private static final class Credits {
        int count = 0;
        final int[] towns = new int[MOST_CREDITS];
        final int[] hours = new int[MOST_CREDITS];
        final int[] ends = new int[MOST_CREDITS];

        void copyFrom(Credits other) {
            count = other.count;
            System.arraycopy(other.towns, 0, towns, 0, MOST_CREDITS);
            System.arraycopy(other.hours, 0, hours, 0, MOST_CREDITS);
            System.arraycopy(other.ends, 0, ends, 0, MOST_CREDITS);
        }

        boolean isThere(int credit) {
            return credit >= 0 && credit < count && credit < MOST_CREDITS;
        }

        void add(int town, int sunHours, int month) {
            if (count < MOST_CREDITS) {
                towns[count] = town;
                hours[count] = sunHours;
                ends[count] = month;
                count++;
            }
        }

        void remove(int credit) {
            if (isThere(credit)) {
                for (int later = credit + 1; later < count; later++) {
                    move(later, later - 1);
                }
                count--;
            }
        }

        void move(int from, int to) {
            if (isThere(from) && isThere(to)) {
                towns[to] = towns[from];
                hours[to] = hours[from];
                ends[to] = ends[from];
            }
        }

        int countOf(int town) {
            int found = 0;
            for (int credit = 0; credit < count; credit++) {
                if (towns[credit] == town) {
                    found++;
                }
            }
            return found;
        }

        int owedBy(int town) {
            int owed = 0;
            for (int credit = 0; credit < count; credit++) {
                if (towns[credit] == town) {
                    owed += hours[credit];
                }
            }
            return owed;
        }

        int owedIn(int town, int month) {
            int owed = 0;
            for (int credit = 0; credit < count; credit++) {
                if (towns[credit] == town && ends[credit] == month) {
                    owed += hours[credit];
                }
            }
            return owed;
        }

        /** How many credits come ahead of a credit by when they are due. */
        int placeOf(int credit) {
            int ahead = 0;
            for (int other = 0; other < count; other++) {
                if (comesAhead(other, credit)) {
                    ahead++;
                }
            }
            return ahead;
        }

        private boolean comesAhead(int one, int other) {
            if (!isThere(one) || !isThere(other)) {
                return false;
            }
            if (ends[one] != ends[other]) {
                return ends[one] < ends[other];
            }
            return hours[one] != hours[other] ? hours[one] > hours[other] : one < other;
        }
    }

    /** What has been counted so far. */
    private static final class Books {
        int got = 0;
        int paid = 0;
        int spent = 0;
        int taken = 0;
        int broken = 0;
        int rainedBack = 0;
        int ended = 0;
        int endedInFull = 0;

        void copyFrom(Books other) {
            got = other.got;
            paid = other.paid;
            spent = other.spent;
            taken = other.taken;
            broken = other.broken;
            rainedBack = other.rainedBack;
            ended = other.ended;
            endedInFull = other.endedInFull;
        }

        int entryOf(int what) {
            switch (what) {
                case 7:
                    return got;
                case 8:
                    return paid;
                case 9:
                    return taken;
                case 10:
                    return broken;
                case 11:
                    return rainedBack;
                case 12:
                    return ended;
                case 13:
                    return endedInFull;
                default:
                    return BAD;
            }
        }
    }

    /** What stood ahead of the latest changes. */
    private static final class History {
        int count = 0;
        private int slot = 0;
        private final Realm[] rows = new Realm[MOST_CHANGES];

        History() {
            for (int i = 0; i < MOST_CHANGES; i++) {
                rows[i] = new Realm();
            }
        }

        void keep(Realm realm) {
            rows[slot].copyFrom(realm);
            slot = Math.floorMod(slot + 1, MOST_CHANGES);
            count = Math.min(count + 1, MOST_CHANGES);
        }

        void takeBack(Realm realm) {
            slot = Math.floorMod(slot - 1, MOST_CHANGES);
            realm.copyFrom(rows[slot]);
            count--;
        }
    }

    /** The latest reason, with what lies behind it; the number 0 stands for nothing. */
    private static final class Reason {
        int number = 0;
        int detail = 0;
        int numberBehind = 0;
        int detailBehind = 0;

        int keep(int newNumber, int newDetail) {
            number = newNumber;
            detail = newDetail;
            numberBehind = 0;
            detailBehind = 0;
            return REFUSED;
        }

        /** The reason of a refused command is the latest one and moves behind. */
        int keepOfCommand(int command, boolean isRefused) {
            numberBehind = isRefused ? number : 0;
            detailBehind = isRefused ? detail : 0;
            number = BAD_COMMAND;
            detail = command;
            return REFUSED;
        }
    }

    /** The input, and the commands that were found in it. */
    private static final class Text {
        final StringBuilder signs = new StringBuilder();
        int at = 0;
        int count = 0;
        final int[] kinds = new int[MOST_COMMANDS];
        final int[][] numbers = new int[MOST_COMMANDS][MOST_NUMBERS];

        /** In a form, 1 stands for a digit and 2 for a number of one or two digits. */
        private static String formOf(int kind) {
            switch (kind) {
                case TREATY:
                    return "treaty 1 1";
                case END:
                    return "end 1 1";
                case CREDIT:
                    return "credit 1 2 1";
                case REPAY:
                    return "repay 1";
                case RAIN:
                    return "rain 1 2";
                case BAIL:
                    return "bail 1 1";
                case BUY:
                    return "buy 1";
                default:
                    return "month";
            }
        }

        /** Finds the commands; if there is a fault, then it is where the reading stopped. */
        boolean isWellFormed() {
            at = 0;
            count = 0;
            for (int i = 0; i < MOST_COMMANDS; i++) {
                if (i > 0 && !isSignTaken(';')) {
                    return false;
                }
                if (!isCommandTaken()) {
                    return false;
                }
                if (at == signs.length()) {
                    return true;
                }
            }
            return false;
        }

        /** Of all forms, the one that goes on for longest tells where a fault is. */
        private boolean isCommandTaken() {
            int start = at;
            int farthest = at;
            for (int kind = 0; kind < KINDS; kind++) {
                at = start;
                if (count < MOST_COMMANDS && isFormTaken(formOf(kind))) {
                    kinds[count] = kind;
                    count++;
                    return true;
                }
                farthest = Math.max(farthest, at);
            }
            at = farthest;
            return false;
        }

        private boolean isFormTaken(String form) {
            int found = 0;
            for (int i = 0; i < form.length(); i++) {
                char sign = form.charAt(i);
                if (sign == '1' || sign == '2') {
                    if (!isNumberTaken(sign - '0', found)) {
                        return false;
                    }
                    found++;
                } else if (!isSignTaken(sign)) {
                    return false;
                }
            }
            return true;
        }

        private boolean isNumberTaken(int mostDigits, int place) {
            int value = 0;
            int digits = 0;
            while (digits < mostDigits && isDigitNext()) {
                value = 10 * value + signs.charAt(at) - '0';
                at++;
                digits++;
            }
            if (count < MOST_COMMANDS && place < MOST_NUMBERS) {
                numbers[count][place] = value;
            }
            return digits > 0;
        }

        private boolean isDigitNext() {
            return at < signs.length() && signs.charAt(at) >= '0' && signs.charAt(at) <= '9';
        }

        private boolean isSignTaken(char sign) {
            if (at < signs.length() && signs.charAt(at) == sign) {
                at++;
                return true;
            }
            return false;
        }
    }
}
