import java.util.ArrayDeque;
import java.util.ArrayList;
import java.util.Arrays;
import java.util.Comparator;
import java.util.Deque;
import java.util.List;
import java.util.TreeMap;
import java.util.regex.Matcher;
import java.util.regex.Pattern;

/**
 * Long runs of calls, made up by a fixed row of numbers, answered by the class and by a mirror that
 * was written apart from it, with the Java library and without regard to cost.
 */
public final class MirrorTest {
    // Towns grow rich with the months, and then hardly anything happens: so most runs are short.
    private static final int RUNS = 12000;
    private static final int SHORT = 120;
    // With the five lines that are compared at the end, no object is used for more than 512 calls.
    private static final int LONG = 507;
    private static final String[] WORDS =
            {"treaty 1 1", "end 1 1", "credit 1 2 1", "repay 1", "rain 1 2", "bail 1 1", "buy 1", "month"};

    private long seed;
    private final ArrayDeque<Object[]> plan = new ArrayDeque<>();
    private final TreeMap<String, Integer> answers = new TreeMap<>();

    private MirrorTest(long seed) {
        this.seed = seed;
    }

    public static void main(String[] args) {
        TreeMap<String, Integer> all = new TreeMap<>();
        for (int run = 0; run < RUNS; run++) {
            MirrorTest test = new MirrorTest(run * 7919L + 17);
            test.run(run);
            test.answers.forEach((key, count) -> all.merge(key, count, Integer::sum));
        }
        if (args.length > 0) {
            all.forEach((key, count) -> System.out.println(key + " " + count));
        }
        System.out.println(RUNS + " runs of calls answered alike");
    }

    private int upTo(int bound) {
        seed = seed * 6364136223846793005L + 1442695040888963407L;
        return (int) ((seed >>> 33) % bound);
    }

    /** Mostly a number from low to high, now and then one beside them. */
    private int around(int low, int high) {
        int luck = upTo(40);
        if (luck == 0) {
            return low - 1;
        }
        if (luck == 1) {
            return high + 1;
        }
        return low + upTo(high - low + 1);
    }

    private void run(int run) {
        WeatherMinistry real = new WeatherMinistry();
        Mirror mirror = new Mirror();
        int style = run % 4;
        StringBuilder told = new StringBuilder();
        String typed = "";
        for (int call = 0; call < (run % 10 == 0 ? LONG : SHORT); call++) {
            Object[] row;
            if (!typed.isEmpty()) {
                row = new Object[] {"append", typed.charAt(0)};
                typed = typed.substring(1);
            } else if (!plan.isEmpty()) {
                row = plan.poll();
            } else if (upTo(18) == 0) {
                planArrears();
                row = new Object[] {"month"};
            } else if (upTo(style == 3 ? 8 : 80) == 0) {
                typed = madeText();
                row = new Object[] {"read"};
            } else {
                row = upTo(5) < 3 ? madeChange(style) : madeQuestion();
            }
            compare(run, call, row, real, mirror, told);
        }
        isAlike(run, real, mirror, told);
    }

    /** A town takes what it can and spends it, so that it can't pay when it has to. */
    private void planArrears() {
        int town = upTo(5);
        int credits = 1 + upTo(3);
        for (int i = 0; i < credits; i++) {
            plan.add(new Object[] {"credit", town, 10 + upTo(11), 1 + upTo(3)});
        }
        int umbrellas = 5 + upTo(10);
        for (int i = 0; i < umbrellas; i++) {
            plan.add(new Object[] {"buy", town});
        }
        plan.add(new Object[] {"would", town, upTo(25), upTo(4)});
        plan.add(new Object[] {"most", town, 1 + upTo(6)});
        plan.add(new Object[] {"repay", upTo(credits)});
        int months = 1 + upTo(4);
        for (int i = 0; i < months; i++) {
            plan.add(new Object[] {"month"});
            plan.add(new Object[] {"would", town, upTo(25), upTo(4)});
            plan.add(new Object[] {"ranked", upTo(3)});
            plan.add(new Object[] {"account", 5 + upTo(9)});
        }
        plan.add(new Object[] {"bail", town, 1 + upTo(5)});
        plan.add(new Object[] {"credit", town, 1 + upTo(20), 1 + upTo(6)});
    }

    private void compare(int run, int call, Object[] row, WeatherMinistry real, Mirror mirror,
            StringBuilder told) {
        Object due = answer(mirror, row);
        Object got = answer(real, row);
        told.append(Arrays.toString(row)).append(" -> ").append(got).append('\n');
        boolean isTold = row[0].equals("month") || got instanceof Integer && (Integer) got < 0;
        String kind = isTold ? " " + got : "";
        answers.merge(row[0] + kind, 1, Integer::sum);
        if (!due.equals(got)) {
            fail(told, "run " + run + ", call " + call + ": due is " + due);
        }
    }

    private static void fail(StringBuilder told, String text) {
        System.out.print(told);
        System.out.println(text);
        System.exit(1);
    }

    private void isAlike(int run, WeatherMinistry real, Mirror mirror, StringBuilder told) {
        for (int town = 0; town < 5; town++) {
            if (real.write(town) != mirror.write(town)) {
                fail(told, "run " + run + ": town " + town + " at the end");
            }
        }
    }

    /** Credits and umbrellas of few towns bring them into arrears; in style 0 much is taken back. */
    private Object[] madeChange(int style) {
        int last = style == 2 ? 1 : 4;
        switch (upTo(style == 0 ? 20 : 18)) {
            case 0:
                return new Object[] {"treaty", around(0, 4), around(0, 4), upTo(4) > 0};
            case 1:
            case 2:
            case 3:
            case 4:
                return new Object[] {"credit", around(0, last), around(1, 20), around(1, 6)};
            case 5:
                return new Object[] {"repay", around(0, 5)};
            case 6:
                return new Object[] {"rain", around(0, 4), around(1, 20)};
            case 7:
                return new Object[] {"bail", around(0, last), upTo(4) == 0 ? around(1, 9) : 1};
            case 8:
            case 9:
            case 10:
            case 11:
            case 12:
            case 13:
            case 14:
                return new Object[] {"buy", around(0, last)};
            case 15:
            case 16:
                return new Object[] {"month"};
            case 17:
                return new Object[] {upTo(6) > 0 ? "month" : upTo(3) == 0 ? "save" : "undo"};
            case 18:
                return new Object[] {upTo(3) == 0 ? "save" : upTo(3) == 0 ? "restore" : "undo"};
            default:
                return new Object[] {"undo"};
        }
    }

    private Object[] madeQuestion() {
        String[] plain = {"isCounted", "meanSun", "paidShare", "writeCredits", "fault"};
        switch (upTo(19)) {
            case 0:
                return new Object[] {"townOf", around(0, 4), around(0, 6)};
            case 1:
                return new Object[] {"creditOf", around(0, 7), around(0, 3)};
            case 2:
                return new Object[] {"owes", around(0, 4)};
            case 3:
                return new Object[] {"owesAgain", around(0, 4)};
            case 4:
                return new Object[] {"due", around(0, 6)};
            case 5:
                return new Object[] {"far", around(0, 4), around(0, 4)};
            case 6:
                return new Object[] {"drizzle", around(0, 4), around(1, 20), around(0, 4)};
            case 7:
                return new Object[] {"drizzleAgain", around(0, 4), around(1, 20), around(0, 4)};
            case 8:
                return new Object[] {"would", around(0, 4), around(0, 24), around(0, 3)};
            case 9:
                return new Object[] {"most", around(0, 4), around(1, 6)};
            case 10:
                return new Object[] {"ranked", around(0, 4)};
            case 11:
                return new Object[] {"next", around(0, 7)};
            case 12:
            case 13:
                return new Object[] {"account", around(0, 15)};
            case 14:
                return new Object[] {"write", around(0, 4)};
            case 15:
                return new Object[] {"written", around(0, 30)};
            case 16:
                return new Object[] {"append", (char) around(32, 126)};
            case 17:
                return new Object[] {"reason", around(0, 1), upTo(2) == 0};
            default:
                return new Object[] {plain[upTo(plain.length)]};
        }
    }

    private String madeText() {
        StringBuilder text = new StringBuilder();
        int commands = 1 + upTo(4);
        for (int i = 0; i < commands; i++) {
            text.append(i > 0 ? ";" : "");
            for (char sign : WORDS[upTo(WORDS.length)].toCharArray()) {
                if (sign == '1') {
                    text.append(upTo(12) == 0 ? upTo(10) : upTo(upTo(2) == 0 ? 3 : 5));
                } else if (sign == '2') {
                    text.append(upTo(25));
                } else {
                    text.append(sign);
                }
            }
        }
        if (upTo(4) == 0) {
            int place = upTo(text.length());
            switch (upTo(3)) {
                case 0:
                    text.setLength(place);
                    break;
                case 1:
                    text.setCharAt(place, "x0 ;1ae".charAt(upTo(7)));
                    break;
                default:
                    text.insert(place, "x0 ;1ae".charAt(upTo(7)));
                    break;
            }
        }
        return text.toString();
    }

    private static int number(Object[] row, int place) {
        return (Integer) row[place];
    }

    private static Object answer(WeatherMinistry m, Object[] row) {
        switch ((String) row[0]) {
            case "treaty": return m.treaty(number(row, 1), number(row, 2), (Boolean) row[3]);
            case "credit": return m.credit(number(row, 1), number(row, 2), number(row, 3));
            case "repay": return m.repay(number(row, 1));
            case "rain": return m.rain(number(row, 1), number(row, 2));
            case "bail": return m.bail(number(row, 1), number(row, 2));
            case "buy": return m.buy(number(row, 1));
            case "month": return m.month();
            case "townOf": return m.townOf(number(row, 1), number(row, 2));
            case "creditOf": return m.creditOf(number(row, 1), number(row, 2));
            case "owes": return m.owes(number(row, 1));
            case "owesAgain": return m.owesAgain(number(row, 1));
            case "due": return m.due(number(row, 1));
            case "far": return m.far(number(row, 1), number(row, 2));
            case "drizzle": return m.drizzle(number(row, 1), number(row, 2), number(row, 3));
            case "drizzleAgain": return m.drizzleAgain(number(row, 1), number(row, 2), number(row, 3));
            case "would": return m.would(number(row, 1), number(row, 2), number(row, 3));
            case "most": return m.most(number(row, 1), number(row, 2));
            case "ranked": return m.ranked(number(row, 1));
            case "next": return m.next(number(row, 1));
            case "isCounted": return m.isCounted();
            case "meanSun": return m.meanSun();
            case "paidShare": return m.paidShare();
            case "account": return m.account(number(row, 1));
            case "write": return m.write(number(row, 1));
            case "writeCredits": return m.writeCredits();
            case "written": return m.written(number(row, 1));
            case "append": return m.append((Character) row[1]);
            case "read": return m.read();
            case "fault": return m.fault();
            case "reason": return m.reason(number(row, 1), (Boolean) row[2]);
            case "undo": return m.undo();
            case "save": return m.save();
            case "restore": return m.restore();
            default: throw new IllegalArgumentException((String) row[0]);
        }
    }

    private static Object answer(Mirror m, Object[] row) {
        switch ((String) row[0]) {
            case "treaty": return m.change("treaty", number(row, 1), number(row, 2), (Boolean) row[3] ? 1 : 0);
            case "credit": return m.change("credit", number(row, 1), number(row, 2), number(row, 3));
            case "repay": return m.change("repay", number(row, 1), 0, 0);
            case "rain": return m.change("rain", number(row, 1), number(row, 2), 0);
            case "bail": return m.change("bail", number(row, 1), number(row, 2), 0);
            case "buy": return m.change("buy", number(row, 1), 0, 0);
            case "month": return m.change("month", 0, 0, 0);
            case "townOf": return m.townOf(number(row, 1), number(row, 2));
            case "creditOf": return m.creditOf(number(row, 1), number(row, 2));
            case "owes":
            case "owesAgain": return m.owes(number(row, 1));
            case "due": return m.due(number(row, 1));
            case "far": return m.far(number(row, 1), number(row, 2));
            case "drizzle":
            case "drizzleAgain": return m.drizzle(number(row, 1), number(row, 2), number(row, 3));
            case "would": return m.would(number(row, 1), number(row, 2), number(row, 3));
            case "most": return m.most(number(row, 1), number(row, 2));
            case "ranked": return m.ranked(number(row, 1));
            case "next": return m.next(number(row, 1));
            case "isCounted": return true;
            case "meanSun": return m.account(3) / 5.0;
            case "paidShare": return m.account(12) == 0 ? 0.0f : (float) m.account(13) / m.account(12);
            case "account": return m.account(number(row, 1));
            case "write": return m.write(number(row, 1));
            case "writeCredits": return m.writeCredits();
            case "written": return m.written(number(row, 1));
            case "append": return m.append((Character) row[1]);
            case "read": return m.read();
            case "fault": return m.fault;
            case "reason": return m.reason(number(row, 1), (Boolean) row[2]);
            case "undo": return m.undo();
            case "save": return m.save();
            case "restore": return m.restore();
            default: throw new IllegalArgumentException((String) row[0]);
        }
    }

    private static final class Town {
        final int number;
        int sun = 10;
        int rain = 0;
        int umbrellas = 2;
        int arrears = 0;

        Town(int number) {
            this.number = number;
        }
    }

    private record Credit(int town, int hours, int month) {
    }

    private static final class Land {
        int month = 0;
        final List<Town> towns = new ArrayList<>();
        final boolean[][] treaties = new boolean[5][5];
        final List<Credit> credits = new ArrayList<>();
        final int[] counts = new int[16];
        Credit lastLacking = null;

        Land() {
            for (int i = 0; i < 5; i++) {
                towns.add(new Town(i));
            }
        }

        Land copy() {
            Land copy = new Land();
            copy.month = month;
            for (int i = 0; i < 5; i++) {
                copy.towns.get(i).sun = towns.get(i).sun;
                copy.towns.get(i).rain = towns.get(i).rain;
                copy.towns.get(i).umbrellas = towns.get(i).umbrellas;
                copy.towns.get(i).arrears = towns.get(i).arrears;
                copy.treaties[i] = treaties[i].clone();
            }
            copy.credits.addAll(credits);
            System.arraycopy(counts, 0, copy.counts, 0, 16);
            return copy;
        }

        /** Breadth first; -1 where no treaties lead. */
        int[] distances(int from) {
            int[] far = {-1, -1, -1, -1, -1};
            Deque<Integer> queue = new ArrayDeque<>();
            far[from] = 0;
            queue.add(from);
            while (!queue.isEmpty()) {
                int town = queue.poll();
                for (int other = 0; other < 5; other++) {
                    if (treaties[town][other] && far[other] < 0) {
                        far[other] = far[town] + 1;
                        queue.add(other);
                    }
                }
            }
            return far;
        }

        int drizzle(int in, int hours, int at) {
            int far = distances(in)[at];
            int got = hours;
            for (int i = 0; i < far; i++) {
                got = (got - got % 2) / 2;
            }
            return far < 0 ? 0 : got;
        }

        int rainIn(int in, int hours) {
            int all = 0;
            for (Town town : towns) {
                int got = drizzle(in, hours, town.number);
                all += got;
                town.rain += got;
                if (town.rain > 60) {
                    town.rain = 60;
                }
            }
            return all;
        }

        int pass() {
            month++;
            int unpaid = 0;
            List<Credit> ending = new ArrayList<>(credits);
            ending.removeIf(credit -> credit.month() != month);
            credits.removeIf(credit -> credit.month() == month);
            for (Credit credit : ending) {
                Town town = towns.get(credit.town());
                counts[12]++;
                if (town.sun >= credit.hours()) {
                    town.sun -= credit.hours();
                    counts[8] += credit.hours();
                    counts[13]++;
                } else {
                    int lacking = credit.hours() - town.sun;
                    counts[8] += town.sun;
                    town.sun = 0;
                    town.arrears += lacking;
                    counts[11] += lacking + lacking;
                    rainIn(credit.town(), lacking + lacking);
                    lastLacking = credit;
                    unpaid++;
                }
            }
            for (Town town : towns) {
                for (int stones = town.arrears; stones > 0; stones -= 5) {
                    if (town.umbrellas > 0) {
                        town.umbrellas--;
                        counts[10]++;
                    } else if (town.sun > 0) {
                        town.sun--;
                        counts[9]++;
                    }
                }
                if (town.arrears > 0) {
                    town.arrears--;
                }
            }
            String suns = "112345543211";
            for (Town town : towns) {
                for (int i = suns.charAt(month % 12) - '0'; i > 0; i--) {
                    if (town.sun < 60) {
                        town.sun++;
                        counts[7]++;
                    }
                }
                for (int i = 0; i < 3; i++) {
                    if (town.rain > 0) {
                        town.rain--;
                    }
                }
            }
            return unpaid;
        }
    }

    private static final class Mirror {
        private static final String COMMAND = "((treaty |end )[0-9] [0-9]|credit [0-9] [0-9]{1,2} [0-9]"
                + "|repay [0-9]|rain [0-9] [0-9]{1,2}|bail [0-9] [0-9]|buy [0-9]|month)";
        private static final Pattern TEXT = Pattern.compile(COMMAND + "(;" + COMMAND + ")*");

        Land land = new Land();
        Land saved = null;
        final ArrayDeque<Land> past = new ArrayDeque<>();
        String input = "";
        String line = "";
        int fault = -3;
        int[] reason = null;

        private int refuse(int number, int detail) {
            reason = new int[] {number, detail};
            return -5;
        }

        int change(String kind, int one, int two, int three) {
            Land old = land.copy();
            int answer = perform(kind, one, two, three);
            if (answer < 0) {
                land = old;
            } else {
                remember(old);
            }
            return answer;
        }

        private void remember(Land old) {
            past.push(old);
            while (past.size() > 8) {
                past.removeLast();
            }
        }

        private boolean noTown(int town) {
            return town < 0 || town > 4;
        }

        private int perform(String kind, int one, int two, int three) {
            if (kind.equals("month")) {
                return land.pass();
            }
            if (kind.equals("repay")) {
                if (one < 0 || one >= land.credits.size()) {
                    return -1;
                }
                Credit credit = land.credits.get(one);
                Town town = land.towns.get(credit.town());
                if (credit.hours() > town.sun) {
                    return refuse(4, town.sun);
                }
                town.sun -= credit.hours();
                land.counts[8] += credit.hours();
                land.credits.remove(one);
                return town.sun;
            }
            if (noTown(one)) {
                return -1;
            }
            Town town = land.towns.get(one);
            switch (kind) {
                case "treaty":
                    return treaty(one, two, three == 1);
                case "credit":
                    return credit(town, two, three);
                case "rain":
                    return two < 1 || two > 20 ? -2 : land.rainIn(one, two);
                case "bail":
                    if (two < 1 || two > 9) {
                        return -2;
                    }
                    if (town.arrears == 0) {
                        return refuse(5, town.umbrellas);
                    }
                    if (two > town.umbrellas) {
                        return refuse(6, town.umbrellas);
                    }
                    for (int i = 0; i < two; i++) {
                        town.umbrellas--;
                        town.arrears = town.arrears < 3 ? 0 : town.arrears - 3;
                    }
                    return town.arrears;
                default:
                    if (town.umbrellas == 9) {
                        return refuse(1, 9);
                    }
                    if (town.sun <= 3) {
                        return refuse(4, town.sun);
                    }
                    town.sun -= 4;
                    return ++town.umbrellas;
            }
        }

        private int treaty(int one, int other, boolean isThen) {
            if (noTown(other)) {
                return -1;
            }
            if (one == other) {
                return refuse(8, one);
            }
            if (land.treaties[one][other] == isThen) {
                return refuse(7, isThen ? 1 : 0);
            }
            land.treaties[one][other] = isThen;
            land.treaties[other][one] = isThen;
            return account(2);
        }

        private int credit(Town town, int hours, int months) {
            if (hours < 1 || hours > 20 || months < 1 || months > 6) {
                return -2;
            }
            if (town.arrears > 0) {
                return refuse(2, town.arrears);
            }
            if (land.credits.size() == 8) {
                return refuse(1, 8);
            }
            if (town.sun + hours > 60) {
                return refuse(3, 60 - town.sun);
            }
            town.sun += hours;
            land.counts[7] += hours;
            land.credits.add(new Credit(town.number, hours, land.month + months));
            return land.credits.size() - 1;
        }

        int townOf(int town, int what) {
            if (noTown(town)) {
                return -1;
            }
            Town it = land.towns.get(town);
            switch (what) {
                case 0: return it.sun;
                case 1: return it.rain;
                case 2: return it.umbrellas;
                case 3: return it.arrears;
                case 4: return (int) land.credits.stream().filter(c -> c.town() == town).count();
                case 5: return (int) Arrays.stream(land.distances(town)).filter(far -> far == 1).count();
                case 6: return (int) Arrays.stream(land.distances(town)).filter(far -> far > 0).count();
                default: return -2;
            }
        }

        int creditOf(int credit, int what) {
            if (credit < 0 || credit >= land.credits.size()) {
                return -1;
            }
            Credit it = land.credits.get(credit);
            return what == 0 ? it.town() : what == 1 ? it.hours() : what == 2 ? it.month()
                    : what == 3 ? it.month() - land.month : -2;
        }

        int owes(int town) {
            return noTown(town) ? -1 : land.credits.stream().filter(c -> c.town() == town)
                    .mapToInt(Credit::hours).sum();
        }

        int due(int months) {
            return months < 0 || months > 6 ? -2 : land.credits.stream()
                    .filter(c -> c.month() == land.month + months).mapToInt(Credit::hours).sum();
        }

        int far(int one, int other) {
            if (noTown(one) || noTown(other)) {
                return -1;
            }
            int far = land.distances(one)[other];
            return far < 0 ? -6 : far;
        }

        int drizzle(int in, int hours, int at) {
            if (noTown(in) || noTown(at)) {
                return -1;
            }
            return hours < 1 || hours > 20 ? -2 : land.drizzle(in, hours, at);
        }

        int would(int town, int months, int what) {
            if (noTown(town)) {
                return -1;
            }
            if (months < 0 || months > 24 || what < 0 || what > 3) {
                return -2;
            }
            Mirror other = new Mirror();
            other.land = land.copy();
            for (int i = 0; i < months; i++) {
                other.land.pass();
            }
            return other.townOf(town, what);
        }

        int most(int town, int months) {
            if (noTown(town)) {
                return -1;
            }
            if (months < 1 || months > 6) {
                return -2;
            }
            int most = 0;
            for (int hours = 1; hours <= 20; hours++) {
                Mirror other = new Mirror();
                other.land = land.copy();
                int number = other.change("credit", town, hours, months);
                if (number >= 0) {
                    Credit taken = other.land.credits.get(number);
                    for (int i = 0; i < months; i++) {
                        other.land.lastLacking = null;
                        other.land.pass();
                    }
                    if (other.land.lastLacking != taken) {
                        most = hours;
                    }
                }
            }
            return most;
        }

        int ranked(int place) {
            List<Town> order = new ArrayList<>(land.towns);
            order.sort(Comparator.<Town>comparingInt(town -> -town.arrears)
                    .thenComparingInt(town -> town.sun).thenComparingInt(town -> town.number));
            return place < 0 || place > 4 ? -1 : order.get(place).number;
        }

        int next(int place) {
            List<Integer> order = new ArrayList<>();
            for (int i = 0; i < land.credits.size(); i++) {
                order.add(i);
            }
            order.sort(Comparator.<Integer>comparingInt(i -> land.credits.get(i).month())
                    .thenComparingInt(i -> -land.credits.get(i).hours()));
            return place < 0 || place >= order.size() ? -1 : order.get(place);
        }

        int account(int what) {
            switch (what) {
                case 0: return land.month;
                case 1: return land.credits.size();
                case 2:
                    int treaties = 0;
                    for (int one = 0; one < 5; one++) {
                        for (int other = 0; other < one; other++) {
                            treaties += land.treaties[one][other] ? 1 : 0;
                        }
                    }
                    return treaties;
                case 3: return land.towns.stream().mapToInt(town -> town.sun).sum();
                case 4: return land.towns.stream().mapToInt(town -> town.rain).sum();
                case 5: return land.towns.stream().mapToInt(town -> town.arrears).sum();
                case 6: return land.towns.stream().mapToInt(town -> town.umbrellas).sum();
                case 14: return input.length();
                case 15: return past.size();
                default: return what < 0 || what > 15 ? -2 : land.counts[what];
            }
        }

        int write(int town) {
            if (noTown(town)) {
                return -1;
            }
            Town it = land.towns.get(town);
            line = town + ":" + it.sun + "s" + it.rain + "r" + it.umbrellas + "u"
                    + (it.arrears > 0 ? it.arrears + "a" : "");
            return line.length();
        }

        int writeCredits() {
            List<String> parts = new ArrayList<>();
            for (Credit credit : land.credits) {
                parts.add(credit.town() + "*" + credit.hours() + "@" + credit.month());
            }
            line = String.join(" ", parts);
            return line.length();
        }

        int written(int index) {
            return index < 0 || index >= line.length() ? -1 : line.charAt(index);
        }

        int append(char character) {
            if (character < ' ' || character > '~') {
                return -2;
            }
            if (input.length() == 60) {
                return -4;
            }
            input += character;
            return input.length();
        }

        /** The longest beginning that a longer text could have, by what the matcher wanted more of. */
        private static int faultOf(String text) {
            int good = 0;
            for (int length = 0; length <= text.length(); length++) {
                Matcher matcher = TEXT.matcher(text.substring(0, length));
                if (matcher.matches() || matcher.hitEnd()) {
                    good = length;
                }
            }
            return good;
        }

        int read() {
            String text = input;
            input = "";
            if (!TEXT.matcher(text).matches()) {
                fault = faultOf(text);
                return -2;
            }
            Land old = land.copy();
            String[] commands = text.split(";");
            for (int i = 0; i < commands.length; i++) {
                String[] words = commands[i].split(" ");
                int[] numbers = new int[3];
                for (int k = 1; k < words.length; k++) {
                    numbers[k - 1] = Integer.parseInt(words[k]);
                }
                boolean isTreaty = words[0].equals("treaty") || words[0].equals("end");
                int answer = perform(isTreaty ? "treaty" : words[0], numbers[0], numbers[1],
                        isTreaty ? (words[0].equals("end") ? 0 : 1) : numbers[2]);
                if (answer < 0) {
                    land = old;
                    reason = answer == -5 ? new int[] {9, i, reason[0], reason[1]} : new int[] {9, i};
                    return -5;
                }
            }
            remember(old);
            return commands.length;
        }

        int reason(int depth, boolean isDetail) {
            if (depth != 0 && depth != 1) {
                return -2;
            }
            if (reason == null) {
                return -3;
            }
            return reason.length <= 2 * depth ? -6 : reason[2 * depth + (isDetail ? 1 : 0)];
        }

        int undo() {
            if (past.isEmpty()) {
                return -3;
            }
            land = past.pop();
            return past.size();
        }

        int save() {
            saved = land.copy();
            return land.month;
        }

        int restore() {
            if (saved == null) {
                return -3;
            }
            land = saved.copy();
            past.clear();
            return land.month;
        }
    }
}
