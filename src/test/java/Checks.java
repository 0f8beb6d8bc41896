import java.util.Objects;

/** What the tests share: checks that are counted, and short ways to make calls. It is no test itself. */
abstract class Checks {
    static final int NONE = WeatherMinistry.NONE;
    static final int BAD = WeatherMinistry.BAD;
    static final int STATE = WeatherMinistry.STATE;
    static final int FULL = WeatherMinistry.FULL;
    static final int REFUSED = WeatherMinistry.REFUSED;
    static final int NOTHING = WeatherMinistry.NOTHING;
    static final int LEAST = Integer.MIN_VALUE;
    static final int GREATEST = Integer.MAX_VALUE;
    static final int[] NO_TOWNS = {-1, 5, LEAST, GREATEST};

    private static int checks = 0;
    private static int wrong = 0;
    private static String part = "";

    /** Names what the checks that follow are about, and makes an object for them. */
    static WeatherMinistry fresh(String name) {
        part = name;
        return new WeatherMinistry();
    }

    static void same(Object want, Object got) {
        checks++;
        if (!Objects.equals(want, got)) {
            wrong++;
            System.out.println(part + ", " + place() + ": due is " + want + ", answered " + got);
        }
    }

    /** The line of the test, not that of a helper which the tests share. */
    private static String place() {
        return StackWalker.getInstance().walk(frames -> frames
                .filter(frame -> !frame.getClassName().equals("Checks")).findFirst()
                .map(frame -> frame.getClassName() + " line " + frame.getLineNumber()).orElse("?"));
    }

    static void end() {
        System.out.println(checks - wrong + " checks as due, " + wrong + " not as due");
        if (wrong > 0 || checks == 0) {
            System.exit(1);
        }
    }

    static void type(WeatherMinistry ministry, String text) {
        for (char sign : text.toCharArray()) {
            ministry.append(sign);
        }
    }

    static int read(WeatherMinistry ministry, String text) {
        type(ministry, text);
        return ministry.read();
    }

    /** So many characters of the line, from the first one. */
    static String line(WeatherMinistry ministry, int length) {
        StringBuilder line = new StringBuilder();
        for (int i = 0; i < length; i++) {
            line.append((char) ministry.written(i));
        }
        return line.toString();
    }

    /** What write would write, but asked with few calls: an object has 512 of them. */
    static String town(WeatherMinistry ministry, int town) {
        int arrears = ministry.townOf(town, 3);
        return town + ":" + ministry.townOf(town, 0) + "s" + ministry.townOf(town, 1) + "r"
                + ministry.townOf(town, 2) + "u" + (arrears > 0 ? arrears + "a" : "");
    }

    /** What writeCredits would write, but asked with few calls. */
    static String credits(WeatherMinistry ministry) {
        StringBuilder line = new StringBuilder();
        int credits = ministry.account(1);
        for (int credit = 0; credit < credits; credit++) {
            line.append(credit > 0 ? " " : "").append(ministry.creditOf(credit, 0)).append('*')
                    .append(ministry.creditOf(credit, 1)).append('@')
                    .append(ministry.creditOf(credit, 2));
        }
        return line.toString();
    }

    /** All that can be undone and saved, by some 65 calls; what was spent shows by isCounted. */
    static String picture(WeatherMinistry ministry) {
        StringBuilder all = new StringBuilder();
        for (int town = 0; town < 5; town++) {
            all.append(town(ministry, town)).append(' ');
            for (int other = 0; other < town; other++) {
                all.append(ministry.far(town, other) == 1 ? "+" : "-");
            }
        }
        all.append(" month ").append(ministry.account(0));
        for (int what = 7; what < 14; what++) {
            all.append(' ').append(ministry.account(what));
        }
        all.append(' ').append(credits(ministry));
        return all.append(' ').append(ministry.isCounted()).toString();
    }

    /** What is neither undone nor saved, but for the line. */
    static String notes(WeatherMinistry ministry) {
        return "input " + ministry.account(14) + ", fault " + ministry.fault()
                + ", reason " + ministry.reason(0, false) + " " + ministry.reason(0, true)
                + ", behind it " + ministry.reason(1, false) + " " + ministry.reason(1, true);
    }

    static void months(WeatherMinistry ministry, int months) {
        for (int i = 0; i < months; i++) {
            ministry.month();
        }
    }

    static void buyAll(WeatherMinistry ministry, int town, int umbrellas) {
        for (int i = 0; i < umbrellas; i++) {
            ministry.buy(town);
        }
    }

    /** A row of treaties, each town with the next one. */
    static void makeRow(WeatherMinistry ministry) {
        for (int town = 0; town < 4; town++) {
            ministry.treaty(town, town + 1, true);
        }
    }

    /** Brings a town that has 10 hours to so much sun; what it takes for that is due in 6 months. */
    static void bringToSun(WeatherMinistry ministry, int town, int sun) {
        int umbrellas = sun < 10 ? (13 - sun) / 4 : 0;
        for (int hours = sun - 10 + 4 * umbrellas; hours > 0; hours -= 20) {
            ministry.credit(town, Math.min(20, hours), 6);
        }
        buyAll(ministry, town, umbrellas);
    }

    /** Lets a town of the month 0 owe 20 hours for the month 1, of which 1 to 18 will be lacking. */
    static void bringToLack(WeatherMinistry ministry, int town, int lacking) {
        int umbrellas = (lacking + 13) / 4;
        ministry.credit(town, 20, 1);
        if (4 * umbrellas > 10 + lacking) {
            ministry.credit(town, 4 * umbrellas - 10 - lacking, 6);
        }
        buyAll(ministry, town, umbrellas);
    }

    /** Brings a town of the month 0 to arrears of 1 to 17, which it has in the month 1. */
    static void bringToArrears(WeatherMinistry ministry, int town, int arrears) {
        bringToLack(ministry, town, arrears + 1);
        ministry.month();
    }

    /** The towns stand in this order, from the first place on. */
    static void order(WeatherMinistry ministry, int... towns) {
        for (int place = 0; place < towns.length; place++) {
            same(towns[place], ministry.ranked(place));
        }
    }

    /** Is refused for a reason, with this detail and with nothing behind it. */
    static void refused(WeatherMinistry ministry, int answer, int reason, int detail) {
        same(REFUSED, answer);
        same(reason, ministry.reason(0, false));
        same(detail, ministry.reason(0, true));
        same(NOTHING, ministry.reason(1, false));
        same(NOTHING, ministry.reason(1, true));
    }

    /** Is refused for a command, with this reason behind it, or NOTHING; nothing else is done. */
    static void readRefused(WeatherMinistry ministry, String text, int command, int reason, int detail) {
        part = "a text that is refused: " + text;
        int changes = ministry.account(15);
        int sun = ministry.account(3);
        int rain = ministry.account(4);
        same(REFUSED, read(ministry, text));
        same(9, ministry.reason(0, false));
        same(command, ministry.reason(0, true));
        same(reason, ministry.reason(1, false));
        same(detail, ministry.reason(1, true));
        same(0, ministry.account(14));
        same(changes, ministry.account(15));
        same(sun, ministry.account(3));
        same(rain, ministry.account(4));
        same(STATE, ministry.fault());
    }

    /** On a new object, a text has its fault there; nothing is done, and no reason comes by it. */
    static void faultAt(int position, String text) {
        WeatherMinistry ministry = fresh("a fault in: " + text);
        ministry.treaty(0, 0, true);
        same(BAD, read(ministry, text));
        same(position, ministry.fault());
        same(0, ministry.account(14));
        same(0, ministry.account(15));
        same(0, ministry.account(0));
        same(8, ministry.reason(0, false));
    }
}
