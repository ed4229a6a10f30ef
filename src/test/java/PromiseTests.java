/** The promises one by one, with answers reckoned by hand from the document. */
public final class PromiseTests {
    private static final int NONE = -1, FULL = -2, STATE = -3, MIXED = -4, NOT = -6;
    private static final int NO_NUMBER = -2000000000;
    private static final int LAST = 59999999;
    private static final int LOW = Integer.MIN_VALUE, HIGH = Integer.MAX_VALUE;
    private static int wrong = 0;
    private static int looked = 0;

    private static void due(String what, int got, int want) {
        looked++;
        if (got != want) {
            wrong++;
            System.out.println(what + " answered " + got + ", due is " + want);
        }
    }

    private static void none(String what, int... got) {
        for (int i = 0; i < got.length; i++) {
            due(what + ", wrong input " + i, got[i], NONE);
        }
    }

    private static void noNumber(String what, int... got) {
        for (int i = 0; i < got.length; i++) {
            due(what + ", no number " + i, got[i], NO_NUMBER);
        }
    }

    public static void main(String[] args) {
        newObject();
        month();
        leap();
        week();
        day();
        date();
        everyDate();
        months();
        nth();
        zone();
        rule();
        ruleInOrder();
        everyChange();
        today();
        known();
        changes();
        offset();
        wall();
        moments();
        clearAndLine();
        mix();
        kind();
        runEachOp();
        runTurn();
        runFails();
        keeps();
        odds();
        oddDays();
        least();
        mend();
        mendSteps();
        mendTwo();
        mended();
        meetings();
        count();
        System.out.println("promises: " + looked + " answers looked at, " + wrong + " wrong");
        if (wrong != 0) {
            System.exit(1);
        }
    }

    private static void lines(OddHours x, int program, int... numbers) {
        x.clear(program);
        for (int i = 0; i + 2 < numbers.length; i += 3) {
            due("line " + i / 3, x.line(program, numbers[i], numbers[i + 1], numbers[i + 2]), i / 3);
        }
    }

    /**
     * Zone 0: an hour on at 120 of day 7 (no walls 10200 .. 10259), and back at 180 of day 14 (walls
     * 20280 .. 20339 twice); zone 1 has no rules; zone 2 is 300 ahead, zone 3 is 300 behind.
     */
    private static OddHours summer() {
        OddHours x = new OddHours();
        due("zone 0", x.zone(0), 0);
        due("zone 1", x.zone(0), 1);
        due("zone 2", x.zone(300), 2);
        due("zone 3", x.zone(-300), 3);
        due("on", x.rule(0, 0, 1, 120, 60), 1);
        due("back", x.rule(0, 0, 2, 180, 0), 2);
        return x;
    }

    private static void newObject() {
        OddHours x = new OddHours();
        due("1 zones", x.count(0), 0);
        due("1 lines", x.count(1), 0);
        due("1 today", x.count(2), 0);
        due("1 days", x.count(3), 36024);
        due("1 known", x.known(99999), 99999);
        due("1 leap day", x.day(4, 130), 1500);
        due("1 no leap day", x.day(3, 130), NONE);
        due("1 weekday", x.date(8, 3), 1);
        for (int p = 0; p < 6; p++) {
            due("1 empty program", x.clear(p), 0);
        }
        due("1 nothing mended", x.mended(0, 0), NO_NUMBER);
        for (int m = 0; m < 12; m++) {
            due("1 month " + m, x.month(m, 30), 30);
        }
        x.zone(5);
        x.today(9);
        x.line(0, 0, 0, 0);
        OddHours y = new OddHours();
        due("1 another object's zones", y.count(0), 0);
        due("1 another object's lines", y.count(1), 0);
        due("1 another object's today", y.count(2), 0);
        due("constants", OddHours.NONE * 100000 + OddHours.FULL * 10000 + OddHours.STATE * 1000
            + OddHours.MIXED * 100 + OddHours.FAILS * 10 + OddHours.NOT, -123456);
    }

    private static void month() {
        OddHours x = new OddHours();
        due("2 longest", x.month(0, 40), 30);
        due("2 again", x.month(0, 31), 40);
        due("2 shortest", x.month(11, 1), 30);
        due("2 days", x.count(3), 36024 + 100 - 2900);
        none("2", x.month(-1, 30), x.month(12, 30), x.month(0, 0), x.month(0, 41), x.month(LOW, HIGH));
        due("2 as it was", x.month(0, 31), 31);
        x.zone(0);
        due("2 state", x.month(0, 30), STATE);
        due("2 none ahead of state", x.month(12, 30), NONE);
        due("2 state changes nothing", x.day(1, 0), 332);
    }

    private static void leap() {
        OddHours x = new OddHours();
        due("3", x.leap(2, 3, 11), 1);
        due("3 year 2", x.day(2, 1130), 3 * 360);
        due("3 year 3", x.day(3, 1130), NONE);
        due("3 year 6 is a multiple of both", x.day(6, 1130), NONE);
        due("3 year 0 is a multiple of both", x.day(0, 1130), NONE);
        due("3 none at all", x.leap(2, 2, 0), 1);
        due("3 days without", x.count(3), 36000);
        due("3 edges", x.leap(50, 100, 0), 1);
        due("3 year 50 alone", x.count(3), 36001);
        due("3 edges", x.leap(2, 100, 11), 1);
        none("3", x.leap(1, 100, 0), x.leap(51, 100, 0), x.leap(4, 1, 0), x.leap(4, 101, 0),
            x.leap(4, 100, -1), x.leap(4, 100, 12), x.leap(0, 0, 0), x.leap(LOW, LOW, LOW));
        due("3 as it was", x.count(3), 36049);
        x.zone(0);
        due("3 state", x.leap(4, 100, 1), STATE);
        due("3 none ahead of state", x.leap(1, 100, 1), NONE);
        due("3 as it was", x.count(3), 36049);
    }

    private static void week() {
        OddHours x = new OddHours();
        due("4", x.week(10, 9), 1);
        due("4 day 0", x.date(0, 3), 9);
        due("4 day 1", x.date(1, 3), 0);
        due("4 shortest", x.week(2, 9), 1);
        due("4 day 0", x.date(0, 3), 1);
        due("4 day 1", x.date(1, 3), 0);
        none("4", x.week(1, 0), x.week(0, 0), x.week(11, 0), x.week(7, -1), x.week(7, 10), x.week(LOW, HIGH));
        due("4 as it was", x.date(3, 3), 0);
        x.zone(0);
        due("4 state", x.week(7, 0), STATE);
        due("4 none ahead of state", x.week(7, 10), NONE);
        due("4 as it was", x.date(7, 3), 0);
    }

    private static void day() {
        OddHours x = new OddHours();
        due("5 first", x.day(0, 0), 0);
        due("5 in month", x.day(0, 29), 29);
        due("5 next month", x.day(0, 100), 30);
        due("5 year", x.day(1, 0), 360);
        due("5 behind a leap day", x.day(4, 200), 1501);
        due("5 ahead of a leap day", x.day(4, 100), 1470);
        due("5 last", x.day(99, 1129), 36023);
        none("5", x.day(-1, 0), x.day(100, 0), x.day(0, -1), x.day(0, 30), x.day(0, 1200), x.day(0, 1130),
            x.day(0, 99), x.day(LOW, LOW), x.day(HIGH, HIGH), x.day(0, -100));
    }

    private static void date() {
        OddHours x = new OddHours();
        for (int day : new int[] {0, 29, 30, 359, 360, 1439, 1440, 1500, 1501, 1800, 1801, 36023}) {
            int date = 100 * x.date(day, 1) + x.date(day, 2);
            due("6 and back " + day, x.day(x.date(day, 0), date), day);
        }
        due("6 year", x.date(1800, 0), 4);
        due("6 year", x.date(1801, 0), 5);
        due("6 month of the leap day", x.date(1500, 1), 1);
        due("6 the leap day", x.date(1500, 2), 30);
        due("6 behind the leap day", x.date(1501, 1), 2);
        due("6 behind the leap day", x.date(1501, 2), 0);
        due("6 weekday", x.date(36023, 3), 1);
        due("6 last year", x.date(36023, 0), 99);
        none("6", x.date(-1, 0), x.date(36024, 0), x.date(0, -1), x.date(0, 4), x.date(LOW, 0), x.date(HIGH, 3));
    }

    /** Each day of three calendars; a new object for each year, for the calls that it is good for. */
    private static void everyDate() {
        int[][] told = {{4, 100, 1, 30, 30}, {2, 6, 0, 1, 3}, {3, 50, 11, 25, 31}};
        for (int[] t : told) {
            int day = 0;
            for (int year = 0; year < 100; year++) {
                OddHours x = new OddHours();
                x.leap(t[0], t[1], t[2]);
                for (int m = 0; m < 12; m++) {
                    x.month(m, t[3] + m % (t[4] - t[3] + 1));
                }
                boolean isLeap = year % t[0] == 0 && year % t[1] != 0;
                for (int m = 0; m < 12; m++) {
                    int many = t[3] + m % (t[4] - t[3] + 1) + (isLeap && m == t[2] ? 1 : 0);
                    for (int d = 0; d < many; d++) {
                        boolean isEdge = d < 2 || d > many - 3;
                        if (isEdge) {
                            due("5 day", x.day(year, 100 * m + d), day);
                            due("6 year of " + day, x.date(day, 0), year);
                            due("6 month of " + day, x.date(day, 1), m);
                            due("6 day of month of " + day, x.date(day, 2), d);
                        }
                        day++;
                    }
                    due("5 no day", x.day(year, 100 * m + many), NONE);
                }
            }
        }
    }

    private static void months() {
        OddHours x = new OddHours();
        x.month(0, 31);
        x.month(1, 28);
        x.month(11, 40);
        due("7 none", x.months(17, 0, 2), 17);
        due("7 one", x.months(5, 1, 2), 36);
        due("7 a year", x.months(5, 12, 2), 374);
        due("7 a year back", x.months(374, -12, 2), 5);
        due("7 last day", x.months(30, 1, 0), 58);
        due("7 over", x.months(30, 1, 1), 61);
        due("7 not", x.months(30, 1, 2), NOT);
        due("7 last day, back", x.months(368, -10, 0), 58);
        due("7 over, back", x.months(368, -10, 1), 31 + 39);
        due("7 long months fit", x.months(368, 12, 2), 737);
        due("7 ahead of day 0", x.months(5, -1, 0), NOT);
        due("7 to day 0", x.months(31, -1, 0), 0);
        due("7 all the way", x.months(5, 1199, 0), x.day(99, 1105));
        due("7 behind the last", x.months(5, 1200, 0), NOT);
        due("7 far", x.months(5, 9999, 0), NOT);
        due("7 far back", x.months(5, -9999, 0), NOT);
        none("7", x.months(-1, 0, 0), x.months(x.count(3), 0, 0), x.months(0, 10000, 0), x.months(0, -10000, 0),
            x.months(0, 0, -1), x.months(0, 0, 3), x.months(LOW, LOW, LOW), x.months(0, HIGH, 0));
        OddHours y = new OddHours();
        y.month(11, 29);
        int lastOfMonth10 = y.day(99, 1029);
        due("7 over the last day", y.months(lastOfMonth10, 1, 1), NOT);
        due("7 the last day", y.months(lastOfMonth10, 1, 0), y.count(3) - 1);
        OddHours z = new OddHours();
        z.month(1, 1);
        z.month(2, 1);
        due("7 over more than a month", z.months(29, 1, 1), 30 + 29);
        OddHours w = new OddHours();
        w.leap(3, 100, 0);
        due("7 behind the last, leap month 0", w.months(5, 1200, 0), NOT);
        due("7 within the last, leap month 0", w.months(5, 1199, 0), w.day(99, 1105));
    }

    private static void nth() {
        OddHours x = new OddHours();
        due("8 first", x.nth(0, 0, 0), 0);
        due("8 first", x.nth(0, 6, 0), 6);
        due("8 second", x.nth(0, 6, 1), 13);
        due("8 fourth", x.nth(0, 6, 3), 27);
        due("8 last is the fourth", x.nth(0, 6, 4), 27);
        due("8 last is the fifth", x.nth(0, 1, 4), 29);
        due("8 in a later month", x.nth(1, 2, 0), 30);
        due("8 in a later year", x.nth(100, 3, 0), 360);
        due("8 the leap day is the last", x.nth(401, x.date(1500, 3), 4), 1500);
        due("8 last month", x.nth(9911, 1, 4), 36023);
        none("8", x.nth(-1, 0, 0), x.nth(10000, 0, 0), x.nth(12, 0, 0), x.nth(0, -1, 0), x.nth(0, 7, 0),
            x.nth(0, 0, -1), x.nth(0, 0, 5), x.nth(LOW, LOW, LOW), x.nth(HIGH, 0, 0), x.nth(-100, 0, 0));
        x.month(0, 8);
        due("8 second fits", x.nth(0, 0, 1), 7);
        due("8 second does not", x.nth(0, 1, 1), NOT);
        x.month(0, 3);
        due("8 none first", x.nth(0, 3, 0), NOT);
        due("8 none last", x.nth(0, 3, 4), NOT);
        due("8 one is last", x.nth(0, 2, 4), 2);
        x.week(10, 9);
        due("8 weekday 9", x.nth(0, 9, 0), 0);
        due("8 fourth of ten days", x.nth(1, 2, 3), NOT);
    }

    private static void zone() {
        OddHours x = new OddHours();
        none("9", x.zone(721), x.zone(-721), x.zone(LOW), x.zone(HIGH));
        due("9 none made", x.count(0), 0);
        int[] offsets = {720, -720, 0, 1, -1};
        for (int z = 0; z < 5; z++) {
            due("9", x.zone(offsets[z]), z);
            due("9 offset", x.offset(z, 1000), offsets[z]);
        }
        due("9 full", x.zone(0), FULL);
        due("9 none ahead of full", x.zone(721), NONE);
        due("9 still five", x.count(0), 5);
    }

    private static void rule() {
        OddHours x = new OddHours();
        due("10 no zone", x.rule(0, 99, 0, 0, 0), NONE);
        x.zone(0);
        none("10", x.rule(1, 99, 0, 0, 0), x.rule(-1, 99, 0, 0, 0), x.rule(0, -1, 0, 0, 0),
            x.rule(0, 10000, 0, 0, 0), x.rule(0, 201, 0, 0, 0), x.rule(0, 99, -1, 0, 0),
            x.rule(0, 99, 12000, 0, 0), x.rule(0, 99, 70, 0, 0), x.rule(0, 99, 5, 0, 0),
            x.rule(0, 99, 0, -1, 0), x.rule(0, 99, 0, 1440, 0), x.rule(0, 99, 0, 0, 721),
            x.rule(0, 99, 0, 0, -721), x.rule(0, LOW, LOW, LOW, LOW), x.rule(0, 99, 990, 0, 0));
        due("10 no changes yet", x.changes(0), 0);
        due("10 of one year", x.rule(0, 202, 11064, 1439, 720), 1);
        due("10 its change", x.change(0, 0), (x.nth(211, 6, 4)) * 1440 + 1439);
        due("10 of all years", x.rule(0, 99, 0, 0, -720), 2);
        due("10 changes", x.changes(0), 101);
        for (int r = 3; r <= 8; r++) {
            due("10", x.rule(0, 9999, 10 * (r - 3), 60 * r, 0), r);
        }
        due("10 full", x.rule(0, 99, 0, 0, 0), FULL);
        due("10 none ahead of full", x.rule(0, 99, 0, 1440, 0), NONE);
        OddHours y = new OddHours();
        y.month(1, 3);
        y.zone(0);
        due("10 a month of 3 days has no such weekday in most years", y.rule(0, 6, 1000, 0, 60), 1);
        int met = 0;
        for (int year = 0; year <= 6; year++) {
            met += y.nth(100 * year + 1, 0, 0) == NOT ? 0 : 1;
        }
        due("10 some years have one", met > 0 && met < 7 ? 1 : 0, 1);
        due("10 those have a change", y.changes(0), met);
    }

    private static void ruleInOrder() {
        OddHours x = new OddHours();
        x.zone(0);
        x.rule(0, 0, 2, 180, 0);
        x.rule(0, 0, 1, 120, 60);
        due("10 in order of day", x.change(0, 0), 7 * 1440 + 120);
        due("10 in order of day", x.change(0, 1), 14 * 1440 + 180 - 60);
        x.rule(0, 0, 1, 60, 30);
        due("10 in order of minute", x.change(0, 0), 7 * 1440 + 60);
        due("10 by the wall as it goes till then", x.change(0, 1), 7 * 1440 + 120 - 30);
        x.rule(0, 0, 1, 120, -60);
        due("10 of one minute the last alone", x.changes(0), 3);
        due("10 of one minute the last alone", x.offset(0, 7 * 1440 + 90), -60);
        due("10 by that", x.change(0, 2), 14 * 1440 + 180 + 60);
        OddHours y = new OddHours();
        y.zone(0);
        y.rule(0, 0, 1, 600, 720);
        y.rule(0, 0, 1, 700, 0);
        due("10 one that is not behind the one ahead is nothing", y.changes(0), 1);
        due("10 the offset stays", y.offset(0, 20000), 720);
        y.rule(0, 0, 11, 720, 5);
        due("10 8 days and 0 is 720 behind the other", y.change(0, 1), 8 * 1440);
        y.zone(0);
        y.rule(1, 0, 1, 600, 720);
        y.rule(1, 0, 1, 1320, 0);
        due("10 at the same moment is nothing", y.changes(1), 1);
        y.rule(1, 0, 1, 1321, 0);
        due("10 a minute behind is one", y.change(1, 1), 7 * 1440 + 601);
        y.zone(720);
        y.rule(2, 0, 0, 0, 0);
        y.rule(2, 0, 0, 719, 0);
        due("10 below 0 is nothing", y.changes(2), 0);
        y.rule(2, 0, 0, 720, 0);
        due("10 at 0", y.changes(2), 1);
        due("10 at 0", y.change(2, 0), 0);
        due("10 at 0", y.offset(2, 0), 0);
        y.rule(2, 0, 0, 800, 0);
        due("10 one that leaves the offset", y.changes(2), 2);
    }

    /** 800 changes, each asked for, and the offset ahead of it and from it on. */
    private static void everyChange() {
        for (int from = 0; from < 800; from += 100) {
            OddHours x = new OddHours();
            x.zone(0);
            for (int r = 0; r < 8; r++) {
                x.rule(0, 99, 1000 * r, 60 * r, 10 * r - 30);
            }
            for (int i = from; i < from + 100; i++) {
                int offset = 10 * (i % 8) - 30;
                int ahead = i == 0 ? 0 : 10 * ((i + 7) % 8) - 30;
                int moment = x.nth(i / 8 * 100 + i % 8, 0, 0) * 1440 + 60 * (i % 8) - ahead;
                due("14 change " + i, x.change(0, i), moment);
                due("15 from change " + i, x.offset(0, moment), offset);
                due("15 ahead of change " + i, x.offset(0, moment - 1), i == 0 ? -9999 : ahead);
            }
        }
    }

    private static void today() {
        OddHours x = new OddHours();
        due("11", x.today(5), 0);
        due("11 the same", x.today(5), 5);
        none("11", x.today(4), x.today(-1), x.today(100000), x.today(LOW), x.today(HIGH));
        due("11 as it was", x.count(2), 5);
        due("11 the last", x.today(99999), 5);
        due("11 the last", x.count(2), 99999);
    }

    private static void known() {
        OddHours x = new OddHours();
        x.zone(0);
        x.rule(0, 0, 1, 120, 60);
        x.today(100);
        x.rule(0, 0, 1, 120, 90);
        x.today(200);
        x.rule(0, 0, 0, 0, 10);
        due("12 at first all", x.changes(0), 2);
        due("12", x.known(0), 99999);
        due("12 of day 0", x.offset(0, 20000), 60);
        due("12", x.known(99), 0);
        due("12 of day 99", x.offset(0, 20000), 60);
        due("12", x.known(100), 99);
        due("12 of day 100", x.offset(0, 20000), 90);
        due("12 of day 100", x.changes(0), 1);
        due("12 of day 100", x.odds(9000, 11000), 2 + 3 + 2);
        due("12", x.known(200), 100);
        due("12 of day 200", x.changes(0), 2);
        due("12 of day 200", x.change(0, 1), 10200 - 10);
        none("12", x.known(-1), x.known(100000), x.known(LOW), x.known(HIGH));
        due("12", x.known(99999), 200);
        due("12 may go back", x.known(5), 99999);
        due("12 rules told later are not known", x.rule(0, 0, 2, 0, 0), 4);
        due("12 rules told later are not known", x.changes(0), 1);
        knownAtOnce();
    }

    /** Each call that asks, right behind one that tells, with nothing asked in between. */
    private static void knownAtOnce() {
        OddHours x = new OddHours();
        x.zone(0);
        x.zone(0);
        lines(x, 0, 0, 0, 0, 1, 0, 0, 4, 1, 0);
        due("23 ahead of a rule", x.run(0, 11000), 11000);
        due("25 ahead of a rule", x.odds(10100, 11000), 2);
        x.today(5);
        x.rule(0, 0, 1, 120, 60);
        due("25 behind a rule", x.odds(10100, 11000), 5);
        x.known(4);
        due("25 ahead of it", x.odds(10100, 11000), 2);
        x.known(5);
        due("26 on the day", x.odd(10100, 11000, 1), 10199);
        x.zone(100);
        due("25 behind a zone", x.odds(9900, 11000), 2 + 3 + 2 + 2);
        x.zone(200);
        due("25 behind another zone", x.odds(9900, 11000), 2 + 3 + 2 + 2);
        x.zone(150);
        due("25 behind a third zone", x.odds(9900, 11000), 2 + 3 + 2 + 2 + 2);
        for (int i = 0; i < 2; i++) {
            int hour = 60 * i;
            int k = 4 + i;
            x.known(k);
            due("13", x.changes(0), i);
            x.known(5 - i + 4);
            x.known(k);
            due("14", x.change(0, 0), i == 0 ? NONE : 10200);
            x.known(9 - k);
            x.known(k);
            due("15", x.offset(0, 11000), hour);
            x.known(9 - k);
            due("15", x.offset(0, 11000), 60 - hour);
            x.known(k);
            due("16", x.wall(0, 11000), 11000 + hour);
            x.known(9 - k);
            due("17", x.moments(0, 10210), i);
            x.known(k);
            due("18", x.moment(0, 11000, 0), 11000 - hour);
            x.known(9 - k);
            due("23", x.run(0, 11000), 11060 - hour);
            x.known(k);
            due("24", x.keeps(0, 0, 60, 11000), i);
            x.known(9 - k);
            due("24", x.keeps(0, 0, 60, 11000), 1 - i);
            x.known(k);
            due("27", x.least(0, 0, 60, 11000, 10), i == 0 ? 11000 : NOT);
            x.known(9 - k);
            due("28", x.mend(0, 0, 60, 11000, 10), 0 + (i == 0 ? 0 : 1));
            x.known(k);
            due("30", x.meetings(0, 1300, 7, 7, 0), i);
        }
    }

    private static void changes() {
        OddHours x = summer();
        due("13", x.changes(0), 2);
        due("13 no rules", x.changes(1), 0);
        none("13", x.changes(-1), x.changes(4), x.changes(LOW), x.changes(HIGH));
        due("14", x.change(0, 0), 10200);
        due("14", x.change(0, 1), 20280);
        none("14", x.change(0, 2), x.change(0, -1), x.change(1, 0), x.change(-1, 0), x.change(4, 0),
            x.change(0, HIGH), x.change(0, LOW));
        for (int r = 0; r < 8; r++) {
            x.rule(1, 99, 1000 * r, 60 * r, r);
        }
        due("13 all of 8 rules", x.changes(1), 800);
        due("14 the last of 8 rules", x.change(1, 799), x.nth(9907, 0, 0) * 1440 + 420 - 6);
        OddHours y = new OddHours();
        for (int m = 0; m < 12; m++) {
            y.month(m, 40);
        }
        y.zone(0);
        y.rule(0, 9999, 0, 0, 60);
        due("14 behind the last moment", y.change(0, 0), 47544 * 1440);
        due("15 ahead of that", y.offset(0, LAST), 0);
    }

    private static void offset() {
        OddHours x = summer();
        due("15", x.offset(0, 0), 0);
        due("15 ahead", x.offset(0, 10199), 0);
        due("15 from the moment on", x.offset(0, 10200), 60);
        due("15 till", x.offset(0, 20279), 60);
        due("15 back", x.offset(0, 20280), 0);
        due("15 last", x.offset(3, LAST), -300);
        int[] bad = {x.offset(4, 0), x.offset(-1, 0), x.offset(0, -1), x.offset(0, LAST + 1), x.offset(LOW, LOW)};
        for (int got : bad) {
            due("15 none", got, -9999);
        }
    }

    private static void wall() {
        OddHours x = summer();
        due("16", x.wall(0, 0), 0);
        due("16 ahead", x.wall(0, 10199), 10199);
        due("16 on", x.wall(0, 10200), 10260);
        due("16 till", x.wall(0, 20279), 20339);
        due("16 back", x.wall(0, 20280), 20280);
        due("16 ahead of day 0", x.wall(3, 299), NOT);
        due("16 day 0", x.wall(3, 300), 0);
        int end = 36024 * 1440;
        due("16 last", x.wall(0, end - 1), end - 1);
        due("16 behind the last", x.wall(0, end), NOT);
        due("16 behind the last", x.wall(2, end - 300), NOT);
        due("16 last", x.wall(2, end - 301), end - 1);
        due("16 far behind", x.wall(0, LAST), NOT);
        none("16", x.wall(4, 0), x.wall(-1, 0), x.wall(0, -1), x.wall(0, LAST + 1), x.wall(0, LOW), x.wall(0, HIGH));
    }

    private static void moments() {
        OddHours x = summer();
        int[][] want = {{0, 1}, {10199, 1}, {10200, 0}, {10259, 0}, {10260, 1}, {20279, 1}, {20280, 2}, {20339, 2},
            {20340, 1}, {36024 * 1440 - 1, 1}};
        for (int[] one : want) {
            due("17 wall " + one[0], x.moments(0, one[0]), one[1]);
        }
        due("17 ahead of moment 0", x.moments(2, 299), 0);
        due("17 moment 0", x.moments(2, 300), 1);
        int end = 36024 * 1440;
        none("17", x.moments(0, -1), x.moments(0, end), x.moments(4, 0), x.moments(-1, 0), x.moments(0, LOW),
            x.moments(0, HIGH));
        due("18 first", x.moment(0, 20300, 0), 20240);
        due("18 second", x.moment(0, 20300, 1), 20300);
        due("18 no third", x.moment(0, 20300, 2), NOT);
        due("18 none", x.moment(0, 10230, 0), NOT);
        due("18 none", x.moment(0, 10200, 0), NOT);
        due("18 none", x.moment(0, 10259, 0), NOT);
        due("18 last of those ahead", x.moment(0, 10199, 0), 10199);
        due("18 one", x.moment(0, 10260, 0), 10200);
        due("18 no second", x.moment(0, 10260, 1), NOT);
        due("18 far", x.moment(0, 10260, HIGH), NOT);
        due("18 below", x.moment(0, 10260, -1), NOT);
        none("18", x.moment(0, -1, 0), x.moment(0, end, 0), x.moment(4, 0, 0), x.moment(-1, 0, 0));
        OddHours y = new OddHours();
        y.zone(120);
        y.rule(0, 0, 1, 600, 60);
        y.rule(0, 0, 1, 620, 0);
        due("17 three", y.moments(0, 10650), 3);
        due("18 three", y.moment(0, 10650, 0), 10530);
        due("18 three", y.moment(0, 10650, 1), 10590);
        due("18 three", y.moment(0, 10650, 2), 10650);
        OddHours w = new OddHours();
        w.zone(720);
        w.rule(0, 0, 1, 120, -720);
        due("17 farthest back, the first wall of both", w.moments(0, 10200 - 1440), 2);
        due("17 farthest back, ahead of that", w.moments(0, 10200 - 1441), 1);
        due("17 farthest back, the last wall of both", w.moments(0, 10199), 2);
        due("17 farthest back, behind that", w.moments(0, 10200), 1);
        due("18 farthest back", w.moment(0, 10200 - 1440, 0), 10200 - 1440 - 720);
        due("18 farthest back", w.moment(0, 10200 - 1440, 1), 10200 - 720);
        due("18 farthest back", w.moment(0, 10199, 0), 10199 - 720);
        due("18 farthest back", w.moment(0, 10199, 1), 10199 + 720);
        OddHours z = new OddHours();
        for (int m = 0; m < 12; m++) {
            z.month(m, 40);
        }
        z.zone(0);
        z.zone(-720);
        due("17 last moment", z.moments(0, LAST), 1);
        due("17 behind the last moment", z.moments(0, LAST + 1), 0);
        due("17 last moment", z.moments(1, LAST - 720), 1);
        due("17 behind the last moment", z.moments(1, LAST - 719), 0);
    }

    private static void clearAndLine() {
        OddHours x = new OddHours();
        none("19", x.clear(-1), x.clear(6), x.clear(LOW), x.clear(HIGH));
        none("20 no zone", x.line(0, 1, 0, 0), x.line(0, 4, 0, 0));
        x.zone(0);
        x.zone(0);
        int[][] good = {{0, 0, 0}, {1, 1, 0}, {2, 0, 0}, {3, 0, 0}, {3, 1439, 0}, {4, 1, 1}, {4, 0, 0}, {5, -9999, 0},
            {5, 9999, 0}, {6, -999, 0}, {6, 999, 0}, {7, -99, 0}, {7, 99, 2}, {8, 0, 0}, {9, 0, 0}, {10, 0, 0},
            {11, 0, 0}};
        for (int[] l : good) {
            due("20 line of op " + l[0], x.line(5, l[0], l[1], l[2]), 0);
            due("19 had one", x.clear(5), 1);
        }
        for (int op : new int[] {0, 2, 8, 9, 10, 11}) {
            none("20 no numbers, op " + op, x.line(5, op, 1, 0), x.line(5, op, -1, 0), x.line(5, op, 0, 1),
                x.line(5, op, 0, -1), x.line(5, op, LOW, HIGH));
        }
        int[][] bad = {{-1, 0, 0}, {12, 0, 0}, {0, 1, 0}, {0, 0, 1}, {1, 2, 0}, {1, -1, 0}, {1, 0, 1}, {2, 1, 0},
            {2, 0, 1}, {3, -1, 0}, {3, 1440, 0}, {3, 0, 1}, {4, 2, 0}, {4, -1, 0}, {4, 0, 2}, {4, 0, -1}, {5, 10000, 0},
            {5, -10000, 0}, {5, 0, 1}, {6, 1000, 0}, {6, -1000, 0}, {6, 0, 1}, {7, 100, 0}, {7, -100, 0}, {7, 0, 3},
            {7, 0, -1}, {8, 1, 0}, {8, 0, 1}, {9, 1, 0}, {9, 0, 1}, {10, 1, 0}, {10, 0, -1}, {11, -1, 0}, {11, 0, 1},
            {LOW, LOW, LOW}, {HIGH, HIGH, HIGH}};
        for (int[] l : bad) {
            due("20 no line " + l[0] + " " + l[1] + " " + l[2], x.line(5, l[0], l[1], l[2]), NONE);
        }
        none("20", x.line(-1, 0, 0, 0), x.line(6, 0, 0, 0), x.line(LOW, 0, 0, 0));
        due("20 nothing came of that", x.count(1), 0);
        for (int i = 0; i < 10; i++) {
            due("20 number", x.line(3, 10, 0, 0), i);
        }
        due("20 full", x.line(3, 10, 0, 0), FULL);
        due("20 none ahead of full", x.line(3, 12, 0, 0), NONE);
        due("20 ten", x.count(1), 10);
        due("19 ten", x.clear(3), 10);
        due("19 none any more", x.clear(3), 0);
    }

    private static int mixOf(OddHours x, int... ops) {
        x.clear(0);
        for (int op : ops) {
            x.line(0, op, 0, 0);
        }
        return x.mix(0);
    }

    private static void mix() {
        OddHours x = new OddHours();
        x.zone(0);
        none("21", x.mix(-1), x.mix(6), x.mix(LOW), x.mix(HIGH));
        due("21 empty", mixOf(x), 0);
        due("21 whole", mixOf(x, 0), NOT);
        due("21 two values", mixOf(x, 0, 0), 2);
        due("21 eight values", mixOf(x, 0, 0, 0, 0, 0, 0, 0, 0), 8);
        due("21 nine values", mixOf(x, 0, 0, 0, 0, 0, 0, 0, 0, 0), 8);
        due("21 nine values", mixOf(x, 0, 0, 0, 0, 0, 0, 0, 0, 10, 0), 8);
        due("21 eight, then fewer", mixOf(x, 0, 0, 0, 0, 0, 0, 0, 0, 8, 0), 10);
        for (int op = 1; op < 12; op++) {
            due("21 no value for op " + op, mixOf(x, op), 0);
        }
        for (int op : new int[] {8, 9, 11}) {
            due("21 one value for op " + op, mixOf(x, 0, op), 1);
        }
        // Each kind by lines that fit, and the ops that take it.
        int[][] kinds = {{0}, {0, 1}, {0, 1, 2}, {0, 0, 8}};
        int[][] taken = {{1, 5}, {2, 4, 5, 6}, {3, 6, 7}, {}};
        for (int kind = 0; kind < 4; kind++) {
            for (int op = 1; op < 8; op++) {
                int[] ops = java.util.Arrays.copyOf(kinds[kind], kinds[kind].length + 1);
                ops[ops.length - 1] = op;
                int at = op;
                boolean fits = java.util.Arrays.stream(taken[kind]).anyMatch(o -> o == at);
                due("21 kind " + kind + " op " + op, mixOf(x, ops), fits ? NOT : ops.length - 1);
            }
        }
        due("21 walls", mixOf(x, 0, 1, 0, 1, 8), NOT);
        due("21 days", mixOf(x, 0, 1, 2, 10, 8), NOT);
        due("21 spans", mixOf(x, 0, 0, 8, 10, 8), 4);
        due("21 a moment and a wall", mixOf(x, 0, 0, 1, 8), 3);
        due("21 a span on a moment", mixOf(x, 0, 0, 0, 8, 9), NOT);
        due("21 a span on a wall", mixOf(x, 0, 1, 0, 0, 8, 9), NOT);
        due("21 a span on a day", mixOf(x, 0, 1, 2, 0, 0, 8, 9), 6);
        due("21 a span on a span", mixOf(x, 0, 0, 8, 10, 9), 4);
        due("21 a moment on a span", mixOf(x, 0, 0, 8, 0, 9), 4);
        due("21 that, turned round", mixOf(x, 0, 0, 8, 0, 11, 9), NOT);
        due("19 whole till then", x.clear(0), 6);
        due("21 cleared", x.mix(0), 0);
        due("22 cleared", x.kind(0), MIXED);
        due("23 cleared", x.run(0, 0), NO_NUMBER);
    }

    private static void kind() {
        OddHours x = new OddHours();
        x.zone(0);
        none("22", x.kind(-1), x.kind(6), x.kind(LOW));
        due("22 empty", x.kind(0), MIXED);
        int[][] ops = {{0}, {0, 1}, {0, 1, 2}, {0, 0, 8}};
        for (int kind = 0; kind < 4; kind++) {
            mixOf(x, ops[kind]);
            due("22", x.kind(0), kind);
        }
        mixOf(x, 0, 0, 0, 8, 9);
        due("22 sum of a moment", x.kind(0), 0);
        mixOf(x, 0, 1, 0, 0, 8, 9);
        due("22 sum of a wall", x.kind(0), 1);
        mixOf(x, 0, 0);
        due("22 two values", x.kind(0), MIXED);
        mixOf(x, 0, 2);
        due("22 does not fit", x.kind(0), MIXED);
    }

    private static void runEachOp() {
        OddHours x = summer();
        lines(x, 0, 0, 0, 0);
        due("23 in", x.run(0, 77), 77);
        lines(x, 0, 0, 0, 0, 1, 2, 0);
        due("23 show", x.run(0, 1000), 1300);
        lines(x, 0, 0, 0, 0, 1, 2, 0, 2, 0, 0);
        due("23 date", x.run(0, 1140), 1);
        due("23 date", x.run(0, 1139), 0);
        lines(x, 0, 0, 0, 0, 1, 1, 0, 2, 0, 0, 3, 540, 0);
        due("23 at", x.run(0, 3000), 2 * 1440 + 540);
        lines(x, 0, 0, 0, 0, 1, 1, 0, 4, 2, 0);
        due("23 turn", x.run(0, 3000), 2700);
        lines(x, 0, 0, 0, 0, 5, -70, 0);
        due("23 later, a moment", x.run(0, 3000), 2930);
        lines(x, 0, 0, 0, 0, 1, 1, 0, 5, 70, 0);
        due("23 later, a wall", x.run(0, 3000), 3070);
        lines(x, 0, 0, 0, 0, 1, 1, 0, 6, -2, 0);
        due("23 step, a wall", x.run(0, 3000), 120);
        lines(x, 0, 0, 0, 0, 1, 1, 0, 2, 0, 0, 6, 3, 0);
        due("23 step, a day", x.run(0, 3000), 5);
        lines(x, 0, 0, 0, 0, 1, 1, 0, 2, 0, 0, 7, 2, 0);
        due("23 month", x.run(0, 3000), 62);
        lines(x, 0, 0, 0, 0, 10, 0, 0, 5, 30, 0, 8, 0, 0);
        due("23 less, moments", x.run(0, 3000), 30);
        lines(x, 0, 0, 0, 0, 10, 0, 0, 5, 30, 0, 11, 0, 0, 8, 0, 0);
        due("23 swap", x.run(0, 3000), -30);
        lines(x, 0, 0, 0, 0, 1, 2, 0, 0, 0, 0, 1, 1, 0, 8, 0, 0);
        due("23 less, walls", x.run(0, 3000), -300);
        lines(x, 0, 0, 0, 0, 1, 1, 0, 2, 0, 0, 10, 0, 0, 6, 4, 0, 8, 0, 0);
        due("23 less, days", x.run(0, 3000), 4 * 1440);
        lines(x, 0, 0, 0, 0, 1, 1, 0, 2, 0, 0, 0, 0, 0, 1, 2, 0, 2, 0, 0, 8, 0, 0);
        due("23 less, days of two zones", x.run(0, 1140), 1440);
        due("23 less, days of two zones", x.run(0, 1139), 0);
        lines(x, 0, 0, 0, 0, 10, 0, 0, 10, 0, 0, 5, 45, 0, 8, 0, 0, 9, 0, 0);
        due("23 add, a moment", x.run(0, 3000), 3045);
        lines(x, 0, 0, 0, 0, 1, 2, 0, 0, 0, 0, 10, 0, 0, 5, -45, 0, 8, 0, 0, 9, 0, 0);
        due("23 add, a wall", x.run(0, 3000), 3255);
        noNumber("23", x.run(-1, 0), x.run(6, 0), x.run(0, -1), x.run(0, LAST + 1), x.run(5, 0), x.run(0, LOW));
        lines(x, 1, 0, 0, 0, 0, 0, 0);
        noNumber("23 not whole", x.run(1, 0));
    }

    private static void runTurn() {
        OddHours x = summer();
        for (int y = 0; y < 2; y++) {
            lines(x, y, 0, 0, 0, 1, 1, 0, 4, 0, y);
        }
        due("23 first of two", x.run(0, 20300), 20240);
        due("23 last of two", x.run(1, 20300), 20300);
        due("23 one", x.run(0, 20400), 20400);
        due("23 one", x.run(1, 20400), 20400);
        for (int wall : new int[] {10200, 10201, 10230, 10259}) {
            due("23 none, the first behind " + wall, x.run(0, wall), 10200);
            due("23 none, the last ahead " + wall, x.run(1, wall), 10199);
        }
        for (int y = 0; y < 2; y++) {
            due("23 ahead of none", x.run(y, 10199), 10199);
            due("23 behind none", x.run(y, 10260), 10200);
        }
        for (int y = 0; y < 2; y++) {
            lines(x, y, 0, 0, 0, 1, 1, 0, 4, 2, y);
        }
        due("23 ahead of the first wall, the first behind", x.run(0, 299), 0);
        noNumber("23 ahead of the first wall, none ahead", x.run(1, 299));
        due("23 the first wall", x.run(1, 300), 0);
        OddHours z = new OddHours();
        for (int m = 0; m < 12; m++) {
            z.month(m, 40);
        }
        z.zone(0);
        for (int y = 0; y < 2; y++) {
            lines(z, y, 0, 0, 0, 1, 0, 0, 6, 999, 0, 4, 0, y);
        }
        noNumber("23 behind the last wall, none behind", z.run(0, 59000000));
        due("23 behind the last wall, the last ahead", z.run(1, 59000000), LAST);
        OddHours w = new OddHours();
        w.zone(120);
        w.rule(0, 0, 1, 600, 60);
        w.rule(0, 0, 1, 620, 0);
        w.zone(0);
        for (int y = 0; y < 2; y++) {
            lines(w, y, 0, 0, 0, 1, 1, 0, 4, 0, y);
        }
        due("23 first of three", w.run(0, 10650), 10530);
        due("23 last of three", w.run(1, 10650), 10650);
        runTurnShort();
    }

    /** A stretch of one minute between two leaps, and the farthest one back. */
    private static void runTurnShort() {
        OddHours x = new OddHours();
        x.zone(0);
        x.zone(0);
        x.rule(0, 0, 1, 120, 60);
        x.rule(0, 0, 1, 181, 120);
        due("14 a minute behind", x.change(0, 1), 10201);
        for (int y = 0; y < 2; y++) {
            lines(x, y, 0, 0, 0, 1, 1, 0, 4, 0, y);
        }
        due("23 first leap, the first behind", x.run(0, 10230), 10200);
        due("23 first leap, the last ahead", x.run(1, 10230), 10199);
        due("23 between", x.run(0, 10260), 10200);
        due("23 between", x.run(1, 10260), 10200);
        due("23 second leap, the first behind", x.run(0, 10300), 10201);
        due("23 second leap, the last ahead", x.run(1, 10300), 10200);
        OddHours y = new OddHours();
        y.zone(720);
        y.zone(0);
        y.rule(0, 0, 1, 120, -720);
        lines(y, 0, 0, 0, 0, 1, 1, 0, 4, 0, 0);
        lines(y, 1, 0, 0, 0, 1, 1, 0, 4, 0, 1);
        due("23 farthest back, first", y.run(0, 10200 - 1440), 10200 - 1440 - 720);
        due("23 farthest back, last", y.run(1, 10200 - 1440), 10200 - 720);
    }

    private static void runFails() {
        OddHours x = summer();
        int end = 36024 * 1440;
        lines(x, 0, 0, 0, 0, 5, -10, 0);
        noNumber("23 moment below 0", x.run(0, 9));
        due("23 moment 0", x.run(0, 10), 0);
        lines(x, 0, 0, 0, 0, 5, 10, 0);
        noNumber("23 moment behind the last", x.run(0, LAST - 9));
        due("23 the last moment", x.run(0, LAST - 10), LAST);
        lines(x, 0, 0, 0, 0, 1, 3, 0, 5, 300, 0);
        noNumber("23 wall ahead of day 0, though it comes back", x.run(0, 299));
        due("23 wall of day 0", x.run(0, 300), 300);
        lines(x, 0, 0, 0, 0, 1, 2, 0);
        noNumber("23 wall behind the last day", x.run(0, end - 300));
        due("23 wall of the last day", x.run(0, end - 301), end - 1);
        lines(x, 0, 0, 0, 0, 1, 1, 0, 2, 0, 0, 6, -1, 0);
        noNumber("23 day ahead of 0", x.run(0, 1439));
        due("23 day 0", x.run(0, 1440), 0);
        lines(x, 0, 0, 0, 0, 1, 1, 0, 2, 0, 0, 6, 1, 0);
        noNumber("23 day behind the last", x.run(0, end - 1));
        due("23 the last day", x.run(0, end - 1441), 36023);
        lines(x, 0, 0, 0, 0, 1, 1, 0, 6, -1, 0);
        noNumber("23 step of a wall ahead of day 0", x.run(0, 1439));
        due("23 step to wall 0", x.run(0, 1440), 0);
        lines(x, 0, 0, 0, 0, 1, 1, 0, 2, 0, 0, 7, -1, 0);
        noNumber("23 month that is none", x.run(0, 0));
        due("23 month that is one", x.run(0, 30 * 1440), 0);
        lines(x, 0, 0, 0, 0, 10, 0, 0, 5, 900, 0, 10, 0, 0, 0, 0, 0, 11, 0, 0, 8, 0, 0, 9, 0, 0, 8, 0, 0);
        due("23 sum", x.run(0, 3000), 1800);
        noNumber("23 sum behind the last moment", x.run(0, LAST - 1799));
        due("23 sum at the last moment", x.run(0, LAST - 1800), 1800);
    }

    private static void keeps() {
        OddHours x = summer();
        lines(x, 0, 0, 0, 0, 5, 60, 0);
        due("24 later by it", x.keeps(0, 0, 60, 100), 1);
        due("24 not later by more", x.keeps(0, 0, 61, 100), 0);
        due("24 any number", x.keeps(0, 0, LOW, 100), 1);
        due("24 any number", x.keeps(0, 0, HIGH, 100), 0);
        due("24 minute", x.keeps(0, 1, 160, 100), 1);
        due("24 not that minute", x.keeps(0, 1, 161, 100), 0);
        due("24 minute in zone 2", x.keeps(0, 21, 460, 100), 1);
        due("24 minute of another day", x.keeps(0, 1, 3, 1440 * 3 + 3 - 60), 1);
        due("24 no wall, no minute", x.keeps(0, 31, 1300, 100), 0);
        due("24 weekday", x.keeps(0, 2, 0, 1379), 1);
        due("24 not that weekday", x.keeps(0, 2, 0, 1380), 0);
        due("24 weekday in zone 2", x.keeps(0, 22, 0, 1079), 1);
        due("24 not that weekday in zone 2", x.keeps(0, 22, 0, 1080), 0);
        due("24 no wall, no weekday", x.keeps(0, 32, 0, 100), 0);
        due("24 a moment is no span", x.keeps(0, 3, LOW, 100), 0);
        due("24 does not fail", x.keeps(0, 4, 0, 100), 1);
        due("24 fails", x.keeps(0, 4, 0, LAST), 0);
        due("24 what fails keeps no law", x.keeps(0, 0, LOW, LAST), 0);
        lines(x, 1, 0, 0, 0, 10, 0, 0, 5, 60, 0, 8, 0, 0);
        due("24 span", x.keeps(1, 3, 60, 100), 1);
        due("24 not so long a span", x.keeps(1, 3, 61, 100), 0);
        due("24 a span is no moment", x.keeps(1, 0, LOW, 100), 0);
        due("24 a span has no minute", x.keeps(1, 1, 60, 100), 0);
        due("24 a span has no weekday", x.keeps(1, 2, 0, 100), 0);
        lines(x, 2, 0, 0, 0, 1, 1, 0);
        due("24 a wall is no moment", x.keeps(2, 0, 0, 100), 0);
        due("24 a wall does not fail", x.keeps(2, 4, 0, 100), 1);
        none("24", x.keeps(-1, 4, 0, 0), x.keeps(6, 4, 0, 0), x.keeps(0, -1, 0, 0), x.keeps(0, 5, 0, 0),
            x.keeps(0, 9, 0, 0), x.keeps(0, 10, 0, 0), x.keeps(0, 13, 0, 0), x.keeps(0, 14, 0, 0),
            x.keeps(0, 41, 0, 0), x.keeps(0, 42, 0, 0), x.keeps(0, 2, 1, 0), x.keeps(0, 4, 1, 0), x.keeps(0, 4, 0, -1),
            x.keeps(0, 4, 0, LAST + 1), x.keeps(0, 1, -1, 0), x.keeps(0, 1, 1440, 0), x.keeps(0, LOW, 0, 0),
            x.keeps(0, HIGH, 0, 0));
        due("24 not whole", x.keeps(3, 4, 0, 0), MIXED);
        due("24 none ahead of mixed", x.keeps(3, 5, 0, 0), NONE);
    }

    private static void all(String what, OddHours x, int a, int b, int... want) {
        due(what + " how many", x.odds(a, b), want.length);
        for (int i = 0; i < want.length; i++) {
            due(what + " " + i, x.odd(a, b, i), want[i]);
        }
        due(what + " no more", x.odd(a, b, want.length), NONE);
    }

    private static void odds() {
        OddHours x = new OddHours();
        all("25 no zones", x, 0, 100000, 0, 100000);
        all("25 one", x, 7, 7, 7);
        x.zone(0);
        all("26 days", x, 1000, 3000, 1000, 1439, 1440, 2879, 2880, 3000);
        all("26 the first", x, 0, 1439, 0, 1439);
        all("26 ends of the range", x, 1440, 2879, 1440, 2879);
        x.zone(100);
        all("26 days of both", x, 1000, 3000, 1000, 1339, 1340, 1439, 1440, 2779, 2780, 2879, 2880, 3000);
        x.rule(0, 0, 1, 120, 60);
        all("26 a change", x, 10090, 10300, 10090, 10199, 10200, 10201, 10300);
        all("26 at an end", x, 10200, 10300, 10200, 10201, 10300);
        all("26 at an end", x, 10201, 10300, 10201, 10300);
        all("26 at an end", x, 10150, 10199, 10150, 10199);
        all("26 at an end", x, 10150, 10200, 10150, 10199, 10200);
        all("26 at an end", x, 10150, 10201, 10150, 10199, 10200, 10201);
        all("26 days behind it begin an hour ahead", x, 11300, 11600, 11300, 11419, 11420, 11459, 11460, 11600);
        due("25 all days", x.odds(59999000, LAST), 2);
        none("25", x.odds(-1, 5), x.odds(5, 4), x.odds(0, 2000001), x.odds(59999999, 60000000), x.odds(LOW, HIGH),
            x.odds(HIGH, LOW), x.odds(60000000, 60000000));
        none("26", x.odd(-1, 5, 0), x.odd(5, 4, 0), x.odd(0, 2000001, 0), x.odd(0, 100, -1), x.odd(0, 100, HIGH),
            x.odd(0, 100, LOW), x.odd(LAST, LAST + 1, 0));
        OddHours y = new OddHours();
        y.zone(0);
        due("25 widest", y.odds(0, 2000000), 2 * 1388 + 2);
        due("25 up to the last moment", y.odds(LAST - 2000000, LAST), 2);
        y.zone(-60);
        due("25 a new zone counts", y.odds(0, 2000000), 4 * 1388 + 4);
        due("26 a new zone counts", y.odd(0, 2000000, 1), 59);
    }

    /** A day that is leapt over and comes later, a day that never comes, and the last day. */
    private static void oddDays() {
        OddHours x = new OddHours();
        x.zone(-720);
        x.rule(0, 0, 31, 0, 720);
        due("26 on", x.change(0, 0), 15120);
        x.rule(0, 0, 41, 720, -720);
        due("26 back", x.change(0, 1), 15840);
        all("26 day 10 begins behind day 11", x, 15000, 16600, 15000, 15119, 15120, 15121, 15839, 15840, 15841, 16600);
        OddHours y = new OddHours();
        y.zone(-720);
        y.rule(0, 0, 31, 0, 720);
        all("26 day 10 never comes", y, 13000, 17000, 13000, 13679, 13680, 15119, 15120, 15121, 16559, 16560, 17000);
        OddHours w = new OddHours();
        w.zone(0);
        w.rule(0, 0, 11, 30, -60);
        all("26 day 8 begins twice, the first one counts", w, 11500, 11600, 11500, 11519, 11520, 11549, 11550, 11551,
            11600);
        OddHours z = new OddHours();
        z.zone(0);
        int end = 36024 * 1440;
        all("26 the last day", z, end - 2000, end + 2000, end - 2000, end - 1441, end - 1440, end + 2000);
    }

    private static void least() {
        OddHours x = summer();
        lines(x, 0, 0, 0, 0, 1, 0, 0, 5, 60, 0, 4, 0, 1);
        // An hour later on the wall: from 10140 to 10199 it falls where there is no wall.
        due("27 kept ahead of it", x.least(0, 0, 60, 0, 10139), NOT);
        due("27 the last one ahead of the gap breaks it", x.least(0, 0, 60, 0, 11000), 10199);
        due("27 from there on", x.least(0, 0, 60, 10200, 1000), NOT);
        due("27 one alone", x.least(0, 0, 60, 10180, 0), 10180);
        due("27 a is looked at", x.least(0, 0, 60, 10180, 500), 10180);
        due("27 b is looked at", x.least(0, 0, 60, 10100, 80), 10180);
        due("27 the widest", x.least(0, 0, 60, 20400, 2000000), NOT);
        due("27 another law", x.least(0, 3, 0, 500, 10), 500);
        lines(x, 1, 0, 0, 0, 5, 1, 0);
        due("27 weekday", x.least(1, 2, 0, 0, 100000), 1439);
        due("27 weekday in zone 2", x.least(1, 22, 0, 0, 100000), 1139);
        due("27 up to the last moment", x.least(1, 4, 0, LAST - 5, 5), LAST);
        none("27", x.least(-1, 4, 0, 0, 0), x.least(6, 4, 0, 0, 0), x.least(0, 5, 0, 0, 0), x.least(0, 4, 1, 0, 0),
            x.least(0, 4, 0, -1, 0), x.least(0, 4, 0, 0, -1), x.least(0, 4, 0, 0, 2000001),
            x.least(0, 4, 0, LAST, 1), x.least(0, 4, 0, LAST + 1, 0), x.least(0, 41, 0, 0, 0),
            x.least(0, 4, 0, HIGH, HIGH), x.least(0, LOW, LOW, LOW, LOW));
        due("27 not whole", x.least(5, 4, 0, 0, 0), MIXED);
        due("27 none ahead of mixed", x.least(5, 4, 0, 0, -1), NONE);
    }

    private static void isMended(OddHours x, int... numbers) {
        for (int i = 0; i < numbers.length; i++) {
            due("29 line " + i / 3 + " number " + i % 3, x.mended(i / 3, i % 3), numbers[i]);
        }
        noNumber("29 no more lines", x.mended(numbers.length / 3, 0));
    }

    private static void mend() {
        OddHours x = summer();
        lines(x, 0, 0, 0, 0, 1, 1, 0, 2, 0, 0, 3, 150, 0, 4, 0, 1);
        due("28 as it is", x.mend(0, 0, -31, 10230, 0), 0);
        isMended(x, 0, 0, 0, 1, 1, 0, 2, 0, 0, 3, 150, 0, 4, 0, 1);
        due("28 y ahead of zones", x.mend(0, 0, -30, 10230, 0), 1);
        isMended(x, 0, 0, 0, 1, 1, 0, 2, 0, 0, 3, 150, 0, 4, 0, 0);
        due("28 a zone with the y as it is", x.mend(0, 0, -10, 10230, 0), 1);
        isMended(x, 0, 0, 0, 1, 1, 0, 2, 0, 0, 3, 150, 0, 4, 1, 1);
        due("28 zone 3 is the only one", x.mend(0, 0, 300, 10230, 0), 1);
        isMended(x, 0, 0, 0, 1, 1, 0, 2, 0, 0, 3, 150, 0, 4, 3, 1);
        due("28 nothing is changed", x.run(0, 10230), 10199);
        lines(x, 1, 0, 0, 0, 1, 1, 0, 4, 0, 1);
        due("28 the first line first, the lesser zone first", x.mend(1, 0, 0, 10230, 0), 1);
        isMended(x, 0, 0, 0, 1, 0, 0, 4, 0, 1);
        due("28 not", x.mend(1, 3, 0, 10230, 0), NOT);
        noNumber("29 nothing found", x.mended(0, 0));
        due("28 an empty program", x.mend(5, 4, 0, 0, 0), NOT);
        lines(x, 2, 0, 0, 0, 0, 0, 0);
        due("28 two values", x.mend(2, 4, 0, 0, 0), NOT);
        none("28", x.mend(-1, 4, 0, 0, 0), x.mend(6, 4, 0, 0, 0), x.mend(0, 5, 0, 0, 0), x.mend(0, 4, 1, 0, 0),
            x.mend(0, 4, 0, -1, 0), x.mend(0, 4, 0, 0, -1), x.mend(0, 4, 0, 0, 100001), x.mend(0, 4, 0, LAST, 1),
            x.mend(0, 4, 0, LAST + 1, 0), x.mend(0, 41, 0, 0, 0), x.mend(LOW, LOW, LOW, LOW, LOW));
        due("28 the widest", x.mend(1, 4, 0, 0, 100000), 0);
        // The law is broken at the change alone, in the midst of the range.
        due("28 all odd ones count", x.mend(1, 0, -29, 9000, 2000), 1);
    }

    private static void mendSteps() {
        OddHours x = new OddHours();
        x.month(0, 31);
        x.zone(0);
        lines(x, 0, 0, 0, 0, 1, 0, 0, 2, 0, 0, 5, 1440, 0, 3, 540, 0, 4, 0, 0);
        due("21 later of a day", x.mix(0), 3);
        due("28 later becomes step", x.mend(0, 1, 540, 0, 5000), 1);
        isMended(x, 0, 0, 0, 1, 0, 0, 2, 0, 0, 6, 1, 0, 3, 540, 0, 4, 0, 0);
        int[] steps = {-6, -1, 0, 1, 6};
        for (int step : steps) {
            lines(x, 1, 0, 0, 0, 6, step, 0);
            due("28 step becomes later " + step, x.mend(1, 0, 1440 * step, 20000, 50), 1);
            isMended(x, 0, 0, 0, 5, 1440 * step, 0);
        }
        for (int step : new int[] {-7, 7, 999}) {
            lines(x, 1, 0, 0, 0, 6, step, 0);
            due("28 too far for later " + step, x.mend(1, 4, 0, 2000000, 50), NOT);
        }
        for (int later : new int[] {-8640, -1440, 1440, 8640}) {
            lines(x, 2, 0, 0, 0, 1, 0, 0, 2, 0, 0, 5, later, 0);
            due("28 later becomes step " + later, x.mend(2, 4, 0, 20000, 50), 1);
            due("29 step", x.mended(3, 1), later / 1440);
        }
        for (int later : new int[] {0, 1439, 1441, -720}) {
            lines(x, 2, 0, 0, 0, 1, 0, 0, 2, 0, 0, 5, later, 0);
            due("28 later does not become step " + later, x.mend(2, 4, 0, 20000, 50), NOT);
        }
        int last = 30 * 1440;
        lines(x, 3, 0, 0, 0, 1, 0, 0, 2, 0, 0, 7, 1, 2);
        due("28 ending 0 ahead of ending 1", x.mend(3, 4, 0, last, 0), 1);
        isMended(x, 0, 0, 0, 1, 0, 0, 2, 0, 0, 7, 1, 0);
        lines(x, 3, 0, 0, 0, 1, 0, 0, 2, 0, 0, 10, 0, 0, 7, 1, 0, 8, 0, 0);
        due("28 ending 1", x.mend(3, 3, 31 * 1440, last, 0), 1);
        isMended(x, 0, 0, 0, 1, 0, 0, 2, 0, 0, 10, 0, 0, 7, 1, 1, 8, 0, 0);
        due("28 no ending", x.mend(3, 3, 32 * 1440, last, 0), NOT);
    }

    private static void mendTwo() {
        OddHours x = new OddHours();
        int[] offsets = {0, -100, -150, 60, 100};
        for (int offset : offsets) {
            x.zone(offset);
        }
        lines(x, 0, 0, 0, 0, 1, 0, 0, 0, 0, 0, 1, 0, 0, 8, 0, 0);
        due("28 one", x.mend(0, 3, 100, 1000, 0), 1);
        isMended(x, 0, 0, 0, 1, 1, 0, 0, 0, 0, 1, 0, 0, 8, 0, 0);
        due("28 one", x.mend(0, 3, 150, 1000, 0), 1);
        isMended(x, 0, 0, 0, 1, 2, 0, 0, 0, 0, 1, 0, 0, 8, 0, 0);
        due("28 two, the first line and its change ahead", x.mend(0, 3, 190, 1000, 0), 2);
        isMended(x, 0, 0, 0, 1, 1, 0, 0, 0, 0, 1, 4, 0, 8, 0, 0);
        due("28 two, the farthest", x.mend(0, 3, 250, 1000, 0), 2);
        isMended(x, 0, 0, 0, 1, 2, 0, 0, 0, 0, 1, 4, 0, 8, 0, 0);
        due("28 not by two", x.mend(0, 3, 251, 1000, 0), NOT);
        lines(x, 1, 0, 0, 0, 1, 0, 0, 2, 0, 0, 5, 1440, 0, 5, 1440, 0, 3, 0, 0);
        due("28 two steps", x.mend(1, 4, 0, 0, 0), 2);
        isMended(x, 0, 0, 0, 1, 0, 0, 2, 0, 0, 6, 1, 0, 6, 1, 0, 3, 0, 0);
        lines(x, 1, 0, 0, 0, 1, 0, 0, 2, 0, 0, 5, 1440, 0, 5, 1440, 0, 5, 1440, 0);
        due("28 not by three", x.mend(1, 4, 0, 0, 0), NOT);
        lines(x, 2, 1, 0, 0);
        due("28 not without input", x.mend(2, 4, 0, 1000, 0), NOT);
        mendFar();
    }

    private static void mendFar() {
        OddHours x = new OddHours();
        x.month(0, 31);
        for (int z = 0; z < 5; z++) {
            x.zone(0);
        }
        int last = 30 * 1440;
        lines(x, 0, 0, 0, 0, 1, 0, 0, 4, 0, 0, 1, 0, 0, 4, 0, 0, 1, 0, 0, 4, 0, 0, 1, 0, 0, 2, 0, 0, 7, 1, 2);
        due("28 the last line of ten", x.mend(0, 4, 0, last, 0), 1);
        due("29 its ending", x.mended(9, 2), 0);
        due("29 the others as they were", x.mended(7, 1), 0);
        OddHours y = new OddHours();
        y.month(0, 31);
        y.zone(0);
        y.zone(-300);
        lines(y, 0, 0, 0, 0, 1, 0, 0, 2, 0, 0, 7, 1, 2);
        due("27 broken at the end alone", y.least(0, 4, 0, 299, last - 299), last);
        // In zone 1 it would be broken at the beginning alone.
        due("28 the first odd one counts for each", y.mend(0, 4, 0, 299, last - 299), 1);
        isMended(y, 0, 0, 0, 1, 0, 0, 2, 0, 0, 7, 1, 0);
        due("28 a minute later it does not", y.mend(0, 4, 0, 300, last - 300), 1);
        isMended(y, 0, 0, 0, 1, 1, 0, 2, 0, 0, 7, 1, 2);
    }

    private static void mended() {
        OddHours x = summer();
        lines(x, 0, 0, 0, 0, 5, 60, 0);
        due("29", x.mend(0, 4, 0, 0, 10), 0);
        x.clear(0);
        due("29 stays as found", x.mended(1, 1), 60);
        due("29 op", x.mended(1, 0), 5);
        due("29 y", x.mended(1, 2), 0);
        due("28 refused", x.mend(0, 5, 0, 0, 0), NONE);
        due("29 what is refused changes nothing", x.mended(1, 1), 60);
        noNumber("29", x.mended(-1, 0), x.mended(2, 0), x.mended(0, -1), x.mended(0, 3), x.mended(LOW, LOW),
            x.mended(HIGH, HIGH));
    }

    private static void meetings() {
        OddHours x = summer();
        due("30 how many", x.meetings(0, 1500, 0, 30, 2), 5);
        due("30 without a moment", x.meetings(0, 1300, 0, 30, 0), 1);
        due("30 without a moment", x.meetings(0, 1190, 0, 30, 0), 0);
        due("30 without a moment", x.meetings(0, 1200, 0, 30, 0), 1);
        due("30 without a moment", x.meetings(0, 1790, 0, 30, 0), 1);
        due("30 without a moment", x.meetings(0, 1800, 0, 30, 0), 0);
        due("30 more than one", x.meetings(0, 1500, 0, 30, 1), 1);
        due("30 another weekday", x.meetings(0, 1501, 0, 30, 1), 0);
        due("30 day 7 alone", x.meetings(0, 1300, 7, 7, 0), 1);
        due("30 day 7 alone", x.meetings(0, 1300, 7, 7, 2), 1);
        due("30 no such weekday", x.meetings(0, 1301, 7, 7, 2), 0);
        due("30 behind", x.meetings(0, 1300, 8, 30, 0), 0);
        due("30 ahead", x.meetings(0, 1300, 0, 6, 0), 0);
        due("30 another zone", x.meetings(1, 1300, 0, 30, 0), 0);
        due("30 ahead of moment 0", x.meetings(2, 0, 0, 30, 0), 1);
        due("30 widest", x.meetings(0, 6, 0, 4000, 2), 571);
        due("30 last day", x.meetings(0, 1, 36023, 36023, 2), 1);
        none("30", x.meetings(-1, 0, 0, 0, 0), x.meetings(4, 0, 0, 0, 0), x.meetings(0, -1, 0, 0, 0),
            x.meetings(0, 14400, 0, 0, 0), x.meetings(0, 7, 0, 0, 0), x.meetings(0, 0, -1, 0, 0),
            x.meetings(0, 0, 1, 0, 0), x.meetings(0, 0, 0, 4001, 0), x.meetings(0, 0, 36024, 36024, 0),
            x.meetings(0, 0, 36000, 36024, 0), x.meetings(0, 0, 0, 0, -1), x.meetings(0, 0, 0, 0, 3),
            x.meetings(0, LOW, LOW, HIGH, 0), x.meetings(0, 0, HIGH, LOW, 0));
        OddHours y = new OddHours();
        y.zone(120);
        y.rule(0, 0, 1, 600, 60);
        y.rule(0, 0, 1, 620, 0);
        due("30 three count once", y.meetings(0, 5700, 0, 30, 1), 1);
    }

    private static void count() {
        OddHours x = new OddHours();
        x.zone(0);
        x.zone(0);
        x.line(0, 0, 0, 0);
        x.line(5, 0, 0, 0);
        x.line(5, 0, 0, 0);
        x.today(33);
        due("31 zones", x.count(0), 2);
        due("31 lines", x.count(1), 3);
        due("31 today", x.count(2), 33);
        due("31 days", x.count(3), 36024);
        x.clear(5);
        due("31 lines", x.count(1), 1);
        none("31", x.count(-1), x.count(4), x.count(LOW), x.count(HIGH));
        OddHours y = new OddHours();
        for (int m = 0; m < 12; m++) {
            y.month(m, 40);
        }
        due("31 most days", y.leap(2, 100, 0), 1);
        due("31 most days", y.count(3), 48049);
    }
}
