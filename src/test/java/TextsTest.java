/** Each sentence that names a boundary, of the terms on texts and reasons, has a test of its own. */
public final class TextsTest extends Checks {
    private static final String[] FORMS = {"treaty 0 1", "end 0 1", "credit 0 1 1", "repay 0",
            "rain 0 1", "bail 0 1", "buy 0", "month"};

    private TextsTest() {
    }

    public static void main(String[] args) {
        onTexts();
        onReasons();
        end();
    }

    private static void onTexts() {
        sixtyCharacters();
        oneCommandOfEachForm();
        repeatedCommands();
        oneOrTwoDigits();
        digitsAlone();
        endsTooEarly();
        cannotContinue();
        letterByLetter();
        tooMuchBehindACommand();
        faultBehindOtherCommands();
        twoTownsMakeATreatyOrEndIt();
        allOfThemOrNone();
    }

    /** "The input has at most 60 characters." */
    private static void sixtyCharacters() {
        WeatherMinistry m = fresh("a text of 60 characters");
        String text = "month;month;month;month;month;month;month;month;credit 0 1 1";
        same(60, text.length());
        type(m, text);
        same(60, m.account(14));
        same(FULL, m.append(';'));
        same(60, m.account(14));
        same(9, m.read());
        same(8, m.account(0));
        same("0*1@9", credits(m));
        WeatherMinistry most = fresh("the most commands");
        same(10, read(most, "buy 0;month;buy 1;month;buy 2;month;buy 3;month;buy 4;month"));
        same(5, most.account(0));
        same(15, most.account(6));
    }

    /** "command = ...": each of the forms, with what it does. */
    private static void oneCommandOfEachForm() {
        WeatherMinistry m = fresh("one command of each form");
        same(1, read(m, "treaty 0 1"));
        same(1, m.account(2));
        same(1, read(m, "end 0 1"));
        same(0, m.account(2));
        same(1, read(m, "credit 0 1 1"));
        same("0*1@1", credits(m));
        same(1, read(m, "repay 0"));
        same(0, m.account(1));
        same(1, read(m, "rain 0 1"));
        same(1, m.account(4));
        same(1, read(m, "buy 0"));
        same("0:6s1r3u", town(m, 0));
        same(1, read(m, "month"));
        same(1, m.account(0));
        WeatherMinistry poor = fresh("the form of bail");
        bringToArrears(poor, 0, 17);
        same(1, read(poor, "bail 0 1"));
        same(14, poor.townOf(0, 3));
    }

    /** "text = command { ";" command}": one command at least, and any number of others. */
    private static void repeatedCommands() {
        faultAt(0, "");
        faultAt(0, ";");
        faultAt(0, ";month");
        faultAt(6, "month;");
        faultAt(6, "month;;month");
        for (int commands = 1; commands <= 10; commands++) {
            WeatherMinistry m = fresh(commands + " commands");
            StringBuilder text = new StringBuilder("month");
            for (int i = 1; i < commands; i++) {
                text.append(";month");
            }
            same(commands, read(m, text.toString()));
            same(commands, m.account(0));
        }
        faultAt(60, "month;month;month;month;month;month;month;month;month;month;");
    }

    /** "A number has 1 or 2 digits." */
    private static void oneOrTwoDigits() {
        WeatherMinistry m = fresh("1 or 2 digits");
        same(6, read(m, "rain 0 1;rain 1 01;rain 2 09;rain 3 10;rain 4 20;rain 0 9"));
        int[] rains = {10, 1, 9, 10, 20};
        for (int town = 0; town < 5; town++) {
            same(rains[town], m.townOf(town, 1));
        }
        same(2, read(m, "credit 0 08 1;credit 1 8 1"));
        same("0*8@1 1*8@1", credits(m));
        faultAt(7, "rain 0 ");
        faultAt(9, "rain 0 100");
        faultAt(9, "rain 0 001");
        faultAt(9, "credit 0  1 1");
        faultAt(11, "credit 0 001 1");
        // A digit is no number: it has no second one.
        faultAt(8, "treaty 00 1");
        faultAt(10, "treaty 0 01");
        faultAt(5, "end 00 1");
        faultAt(7, "end 0 01");
        faultAt(8, "credit 00 1 1");
        faultAt(12, "credit 0 1 01");
        faultAt(7, "repay 00");
        faultAt(6, "rain 00 1");
        faultAt(6, "bail 00 1");
        faultAt(8, "bail 0 01");
        faultAt(5, "buy 00");
    }

    /** A digit is from 0 to 9: the signs beside them are none. */
    private static void digitsAlone() {
        faultAt(4, "buy /");
        faultAt(4, "buy :");
        faultAt(4, "buy a");
        faultAt(4, "buy -1");
        faultAt(7, "rain 0 /");
        faultAt(7, "rain 0 :");
        faultAt(8, "rain 0 1/");
        faultAt(8, "rain 0 1:");
        WeatherMinistry m = fresh("the digits 0 and 9");
        same(1, read(m, "buy 0"));
        readRefused(m, "buy 9", 0, NOTHING, NOTHING);
    }

    /** "or its length if it ends too early" */
    private static void endsTooEarly() {
        for (String form : FORMS) {
            for (int length = 0; length < form.length(); length++) {
                faultAt(length, form.substring(0, length));
                faultAt(6 + length, "month;" + form.substring(0, length));
            }
        }
        faultAt(10, "credit 0 1");
        faultAt(11, "credit 0 12");
        faultAt(12, "credit 0 12 ");
    }

    /** "The fault position of a text is the index of its first character that cannot continue" it. */
    private static void cannotContinue() {
        for (String form : FORMS) {
            for (int place = 0; place < form.length(); place++) {
                String before = form.substring(0, place);
                String behind = form.substring(place + 1);
                faultAt(place, before + "~" + behind);
                faultAt(6 + place, "month;" + before + "~" + behind);
                faultAt(place, before + "~~");
            }
            faultAt(form.length(), form + "~");
            faultAt(form.length(), form + " ");
        }
        faultAt(0, " month");
        faultAt(6, "month; month");
        faultAt(5, "month ;month");
    }

    /** "words are looked at letter by letter" */
    private static void letterByLetter() {
        String[] words = {"tx", "trex", "ex", "enx", "cx", "crex", "creditx", "rx", "rex", "repx",
                "rax", "raix", "bx", "bax", "baix", "bux", "mx", "monx"};
        for (String word : words) {
            faultAt(word.length() - 1, word);
        }
        // So far they could be words with the same beginning.
        faultAt(1, "rob");
        faultAt(2, "raz");
        faultAt(2, "red");
        faultAt(3, "repent");
        faultAt(3, "raid");
        faultAt(2, "bad");
        faultAt(3, "bait");
        faultAt(2, "but");
        faultAt(0, "Month");
        faultAt(1, "mONTH");
        faultAt(0, "0");
    }

    /** "first character that cannot continue such a text": behind what could be its end. */
    private static void tooMuchBehindACommand() {
        faultAt(5, "months");
        faultAt(5, "month0");
        faultAt(5, "monthmonth");
        faultAt(5, "buy 0buy 1");
        faultAt(5, "buy 0,buy 1");
        faultAt(12, "credit 0 1 1 ");
        faultAt(8, "rain 0 1month");
        faultAt(9, "rain 0 12month");
        faultAt(10, "treaty 0 1 2");
    }

    private static void faultBehindOtherCommands() {
        faultAt(15, "treaty 0 9;buy x");
        faultAt(14, "month;rain 0 1x");
        faultAt(8, "buy 0;bux 1");
        faultAt(59, "month;month;month;month;month;month;month;month;month;buy 0 ");
    }

    /** "two towns make a treaty, or end it": either way round, and as often as it is otherwise. */
    private static void twoTownsMakeATreatyOrEndIt() {
        WeatherMinistry m = fresh("treaties in a text");
        same(5, read(m, "treaty 0 1;end 1 0;treaty 1 0;end 0 1;treaty 4 3"));
        same(1, m.account(2));
        readRefused(m, "end 3 4;end 3 4", 1, 7, 0);
        readRefused(m, "treaty 3 4", 0, 7, 1);
        readRefused(m, "treaty 2 2", 0, 8, 2);
        readRefused(m, "end 2 2", 0, 8, 2);
    }

    /** "Commands are done one after the other, all of them or none." */
    private static void allOfThemOrNone() {
        WeatherMinistry m = fresh("all of them or none");
        m.treaty(0, 1, true);
        m.credit(2, 5, 3);
        String before = picture(m);
        same(REFUSED, read(m, "month;rain 0 20;credit 4 20 6;treaty 3 4;repay 0;buy 9"));
        same(before, picture(m));
        same(REFUSED, read(m, "buy 9;month"));
        same(before, picture(m));
        same(REFUSED, read(m, "month;repay 1"));
        same(before, picture(m));
        same(BAD, read(m, "month;rain 0 20;"));
        same(before, picture(m));
        same(3, read(m, "credit 4 20 6;repay 1;credit 4 2 1"));
        same("2*5@3 4*2@1", credits(m));
        same(3, m.account(15));
    }

    private static void onReasons() {
        eightCreditsOrNineUmbrellas();
        arrearsAreAReason();
        sunWouldBeAboveSixty();
        tooLittleSun();
        noArrears();
        fewerUmbrellas();
        alreadySo();
        bothTownsAreOne();
        commandOfAText();
        nothingBehindANumberOutOfRange();
        firstOfTheReasons();
        latestReasonIsKept();
    }

    /** "1, there are 8 credits, or 9 umbrellas: this number" */
    private static void eightCreditsOrNineUmbrellas() {
        WeatherMinistry m = fresh("reason 1");
        for (int i = 0; i < 8; i++) {
            same(i, m.credit(0, 5, 6));
        }
        refused(m, m.credit(1, 1, 1), 1, 8);
        for (int umbrellas = 3; umbrellas <= 9; umbrellas++) {
            same(umbrellas, m.buy(0));
        }
        refused(m, m.buy(0), 1, 9);
        m.repay(7);
        same(7, m.credit(1, 1, 1));
    }

    /** "2, the town has arrears: how much" */
    private static void arrearsAreAReason() {
        for (int arrears : new int[] {1, 2, 17}) {
            WeatherMinistry m = fresh("reason 2, arrears of " + arrears);
            bringToArrears(m, 1, arrears);
            refused(m, m.credit(1, 1, 1), 2, arrears);
        }
    }

    /** "3, the sun would be above 60: how much more it can have" */
    private static void sunWouldBeAboveSixty() {
        WeatherMinistry m = fresh("reason 3");
        bringToSun(m, 0, 41);
        refused(m, m.credit(0, 20, 6), 3, 19);
        same(2, m.credit(0, 19, 6));
        refused(m, m.credit(0, 1, 6), 3, 0);
        refused(m, m.credit(0, 20, 6), 3, 0);
        WeatherMinistry just = fresh("no reason 3 for 60");
        bringToSun(just, 0, 40);
        same(2, just.credit(0, 20, 6));
    }

    /** "4, the town has too little sun: how much it has" */
    private static void tooLittleSun() {
        for (int sun = 0; sun <= 6; sun++) {
            WeatherMinistry m = fresh("reason 4, to pay 5 hours of " + sun);
            m.credit(0, 5, 6);
            int umbrellas = (18 - sun) / 4;
            m.credit(0, sun + 4 * umbrellas - 15, 6);
            buyAll(m, 0, umbrellas);
            same(sun, m.townOf(0, 0));
            if (sun < 5) {
                refused(m, m.repay(0), 4, sun);
            } else {
                same(sun - 5, m.repay(0));
            }
            WeatherMinistry shop = fresh("reason 4, to buy for " + sun);
            bringToSun(shop, 0, sun);
            if (sun < 4) {
                refused(shop, shop.buy(0), 4, sun);
            } else {
                same(sun < 6 ? 5 : 4, shop.buy(0));
            }
        }
    }

    /** "5, it has no arrears: its umbrellas" */
    private static void noArrears() {
        WeatherMinistry m = fresh("reason 5");
        refused(m, m.bail(0, 1), 5, 2);
        m.buy(0);
        refused(m, m.bail(0, 1), 5, 3);
        WeatherMinistry none = fresh("reason 5 without umbrellas");
        bringToArrears(none, 0, 1);
        same(0, none.bail(0, 4));
        refused(none, none.bail(0, 1), 5, 0);
    }

    /** "6, it has fewer umbrellas: how many" */
    private static void fewerUmbrellas() {
        WeatherMinistry m = fresh("reason 6");
        bringToArrears(m, 0, 17);
        same(5, m.townOf(0, 2));
        refused(m, m.bail(0, 6), 6, 5);
        refused(m, m.bail(0, 9), 6, 5);
        same(2, m.bail(0, 5));
        refused(m, m.bail(0, 1), 6, 0);
    }

    /** "7, it is so already: 1 for a treaty, 0 for none" */
    private static void alreadySo() {
        WeatherMinistry m = fresh("reason 7");
        refused(m, m.treaty(0, 1, false), 7, 0);
        m.treaty(0, 1, true);
        refused(m, m.treaty(0, 1, true), 7, 1);
        refused(m, m.treaty(1, 0, true), 7, 1);
        m.treaty(1, 0, false);
        refused(m, m.treaty(0, 1, false), 7, 0);
    }

    /** "8, both towns are one: the town" */
    private static void bothTownsAreOne() {
        WeatherMinistry m = fresh("reason 8");
        for (int town = 0; town < 5; town++) {
            refused(m, m.treaty(town, town, true), 8, town);
            refused(m, m.treaty(town, town, false), 8, town);
        }
    }

    /** "9, a command of a text is refused ...: the number of the command, from 0. Behind 9 lies ..." */
    private static void commandOfAText() {
        WeatherMinistry m = fresh("reason 9");
        readRefused(m, "end 0 1", 0, 7, 0);
        readRefused(m, "treaty 0 1;treaty 1 0", 1, 7, 1);
        readRefused(m, "month;month;month;month;month;month;month;month;end 3 3", 8, 8, 3);
        bringToArrears(m, 4, 3);
        readRefused(m, "credit 4 1 1", 0, 2, 3);
        readRefused(m, "bail 4 9", 0, 6, m.townOf(4, 2));
        readRefused(m, "bail 3 9", 0, 5, 2);
        readRefused(m, "buy 3;buy 3;buy 3", 2, 4, 3);
        readRefused(m, "credit 3 20 1;credit 3 20 1;credit 3 20 1", 2, 3, 9);
        WeatherMinistry full = fresh("reason 9 for the last of the most commands");
        full.credit(0, 20, 6);
        buyAll(full, 0, 7);
        readRefused(full, "buy 1;buy 2;buy 3;buy 4;month;month;month;month;month;buy 0", 9, 1, 9);
        for (int i = 1; i < 8; i++) {
            full.credit(1, 1, 6);
        }
        readRefused(full, "month;credit 2 1 1", 1, 1, 8);
        readRefused(full, "repay 0;credit 2 1 1", 0, 4, 2);
    }

    /** "or has a number that is out of range", "or nothing for a number that is out of range" */
    private static void nothingBehindANumberOutOfRange() {
        WeatherMinistry m = fresh("nothing behind a number out of range");
        String[] texts = {"treaty 5 0", "treaty 0 5", "end 5 0", "end 0 5", "credit 5 1 1",
                "credit 0 0 1", "credit 0 21 1", "credit 0 99 1", "credit 0 1 0", "credit 0 1 7",
                "repay 0", "repay 9", "rain 5 1", "rain 0 0", "rain 0 21", "bail 5 1", "bail 0 0",
                "buy 5", "buy 9"};
        for (String text : texts) {
            WeatherMinistry alone = new WeatherMinistry();
            readRefused(alone, text, 0, NOTHING, NOTHING);
            readRefused(alone, "month;" + text, 1, NOTHING, NOTHING);
        }
        // What lay behind an earlier 9 is gone.
        readRefused(m, "end 0 1", 0, 7, 0);
        readRefused(m, "buy 9", 0, NOTHING, NOTHING);
    }

    /** "refused for the first of the reasons that its method names, in the order in which ..." */
    private static void firstOfTheReasons() {
        WeatherMinistry one = fresh("8 ahead of 7");
        refused(one, one.treaty(2, 2, false), 8, 2);
        WeatherMinistry poor = fresh("2 ahead of 1");
        bringToArrears(poor, 0, 17);
        for (int i = 0; i < 8; i++) {
            same(i, poor.credit(1, 1, 6));
        }
        refused(poor, poor.credit(0, 20, 6), 2, 17);
        WeatherMinistry full = fresh("1 ahead of 3");
        bringToSun(full, 0, 60);
        for (int i = 3; i < 8; i++) {
            same(i, full.credit(1, 1, 6));
        }
        refused(full, full.credit(0, 1, 6), 1, 8);
        WeatherMinistry rich = fresh("5 ahead of 6");
        refused(rich, rich.bail(0, 3), 5, 2);
        WeatherMinistry shop = fresh("1 ahead of 4");
        shop.credit(0, 20, 6);
        buyAll(shop, 0, 7);
        same("0:2s0r9u", town(shop, 0));
        refused(shop, shop.buy(0), 1, 9);
    }

    /** "The latest reason, with what lies behind it, is kept." */
    private static void latestReasonIsKept() {
        WeatherMinistry m = fresh("the latest reason is kept");
        readRefused(m, "month;end 3 4", 1, 7, 0);
        m.save();
        m.month();
        m.treaty(9, 9, true);
        m.credit(0, 99, 1);
        m.repay(8);
        m.undo();
        m.restore();
        m.fault();
        m.would(0, 24, 0);
        m.most(0, 6);
        read(m, "month");
        read(m, "moon");
        same(9, m.reason(0, false));
        same(1, m.reason(0, true));
        same(7, m.reason(1, false));
        same(0, m.reason(1, true));
        refused(m, m.treaty(4, 4, true), 8, 4);
        refused(m, m.treaty(3, 3, true), 8, 3);
    }
}
