import java.util.ArrayList;
import java.util.Arrays;
import java.util.HashMap;
import java.util.List;
import java.util.Map;
import java.util.Random;
import java.util.TreeMap;
import java.util.TreeSet;

/**
 * Puts the class beside a second, slow one that follows the document's words minute by minute and
 * day by day, in runs of calls drawn from fixed seeds; prints each call whose answers differ.
 */
public final class ModelTests {
    private static final int LAST = 59999999;
    private static final int NO_NUMBER = -2000000000;

    public static void main(String[] args) {
        int runs = args.length > 0 ? Integer.parseInt(args[0]) : 150;
        int first = args.length > 1 ? Integer.parseInt(args[1]) : 1;
        int wrong = 0;
        Map<String, Integer> seen = new TreeMap<>();
        for (int seed = first; seed < first + runs; seed++) {
            wrong += new Run(seed, seen).go();
        }
        wrong += missing(seen);
        wrong += densest();
        System.out.println(wrong == 0 ? "model: " + runs + " runs agree" : "model: " + wrong + " wrong");
        if (args.length > 2) {
            seen.forEach((k, v) -> System.out.println(k + " " + v));
        }
        if (wrong != 0) {
            System.exit(1);
        }
    }

    /** Answers that the drawn runs must have met, or the runs show too little. */
    private static int missing(Map<String, Integer> seen) {
        int wrong = 0;
        for (String want : new String[] {"months NOT", "nth NOT", "zone FULL", "rule FULL", "wall NOT",
            "moments 0", "moments 2", "moment NOT", "line FULL", "mix NOT", "kind MIXED",
            "keeps MIXED", "keeps 0", "keeps 1", "least NOT", "least MIXED", "mend NOT", "mend 0",
            "mend 1", "mend 2", "month STATE", "leap STATE", "week STATE", "known NONE"}) {
            if (!seen.containsKey(want)) {
                wrong++;
                System.out.println("model: no run met " + want);
            }
        }
        return wrong;
    }

    /** As many odd moments as there can be: years of 13 days, and 800 changes in each of five zones. */
    private static int densest() {
        OddHours real = dense();
        Model model = new Model();
        for (int m = 0; m < 12; m++) {
            model.month(m, m == 6 ? 2 : 1);
        }
        model.leap(2, 2, 0);
        model.week(2, 0);
        for (int z = 0; z < 5; z++) {
            model.zone(7 * z);
            for (int r = 0; r < 8; r++) {
                model.rule(z, 99, 6000 + r % 2 * 10, 45 + 160 * r, 7 * z + r * 3);
            }
        }
        int wrong = real.changes(0) == 800 && real.changes(4) == 800 ? 0 : 1;
        int many = model.odds(0, 1900000);
        wrong += many > 24900 && many == real.odds(0, 1900000) ? 0 : 1;
        int i = 0;
        for (int moment : model.odd(0, 1900000)) {
            // An object is good for 512 calls.
            real = i % 400 == 0 ? dense() : real;
            wrong += moment == real.odd(0, 1900000, i) ? 0 : 1;
            i++;
        }
        if (wrong != 0) {
            System.out.println("model: the densest range has " + real.odds(0, 1900000) + ", due is " + many);
        }
        return wrong;
    }

    private static OddHours dense() {
        OddHours real = new OddHours();
        for (int m = 0; m < 12; m++) {
            real.month(m, m == 6 ? 2 : 1);
        }
        real.leap(2, 2, 0);
        real.week(2, 0);
        for (int z = 0; z < 5; z++) {
            real.zone(7 * z);
            for (int r = 0; r < 8; r++) {
                real.rule(z, 99, 6000 + r % 2 * 10, 45 + 160 * r, 7 * z + r * 3);
            }
        }
        return real;
    }

    /** One object of each, and the calls that are drawn for both. */
    private static final class Run {
        final int seed;
        final Random dice;
        final Map<String, Integer> seen;
        final OddHours real = new OddHours();
        final Model model = new Model();
        final StringBuilder log = new StringBuilder();
        int calls;
        int wrong;

        Run(int seed, Map<String, Integer> seen) {
            this.seed = seed;
            this.seen = seen;
            dice = new Random(seed);
        }

        int go() {
            tellCalendar();
            for (int i = 0; i < 10; i++) {
                askCalendar();
            }
            tellZones();
            // An object is good for 512 calls; a round has some 100 at most.
            for (int i = 0; i < 6 && calls < 400; i++) {
                tellProgram();
                for (int k = 0; k < 5 && wrong == 0; k++) {
                    askZone();
                }
                for (int k = 0; k < 3 && wrong == 0; k++) {
                    askProgram();
                }
                tellMore();
            }
            if (wrong != 0) {
                System.out.println("seed " + seed + log);
            }
            return wrong;
        }

        int below(int n) {
            return dice.nextInt(n);
        }

        int between(int a, int b) {
            return a + dice.nextInt(b - a + 1);
        }

        boolean rarely() {
            return below(25) == 0;
        }

        /** Mostly within, now and then at or past an edge. */
        int near(int a, int b) {
            int roll = below(40);
            if (roll == 0) {
                return a - 1;
            }
            if (roll == 1) {
                return b + 1;
            }
            if (roll == 2) {
                return below(2) == 0 ? Integer.MIN_VALUE : Integer.MAX_VALUE;
            }
            if (roll < 6) {
                return below(2) == 0 ? a : b;
            }
            return between(a, Math.max(a, b));
        }

        void due(String call, int got, int want) {
            calls++;
            log.append(' ').append(call).append('=').append(got);
            String name = call.substring(0, call.indexOf('('));
            seen.merge(name + " " + word(name, want), 1, Integer::sum);
            if (got != want) {
                wrong++;
                System.out.println("seed " + seed + ": " + call + " answered " + got + ", due is " + want);
            }
        }

        String word(String name, int answer) {
            boolean isCount = "moments keeps mend changes".contains(name);
            switch (answer) {
                case -1: return "NONE";
                case -2: return "FULL";
                case -3: return "STATE";
                case -4: return "MIXED";
                case -6: return "NOT";
                case NO_NUMBER: return "NO_NUMBER";
                default: return isCount ? "" + Math.min(answer, 9) : "some";
            }
        }

        void tellCalendar() {
            int shape = below(5);
            int shortest = shape == 0 ? 1 : shape == 1 ? 2 : shape == 2 ? 27 : shape == 3 ? 36 : 30;
            int longest = shape == 0 ? 2 : shape == 1 ? 9 : shape == 2 ? 31 : shape == 3 ? 40 : 30;
            for (int m = 0; m < 12 && shape != 4; m++) {
                int month = m;
                int days = between(shortest, longest);
                due("month(" + month + ", " + days + ")", real.month(month, days), model.month(month, days));
            }
            for (int i = 0; i < 2; i++) {
                int month = near(0, 11);
                int days = rarely() ? near(1, 40) : near(shortest, longest);
                due("month(" + month + ", " + days + ")", real.month(month, days), model.month(month, days));
            }
            if (below(3) > 0) {
                int a = below(2) == 0 ? near(2, 50) : between(2, 5);
                int b = below(2) == 0 ? near(2, 100) : between(2, 12);
                int m = near(0, 11);
                due("leap(" + a + ", " + b + ", " + m + ")", real.leap(a, b, m), model.leap(a, b, m));
            }
            if (below(3) > 0) {
                int w = near(2, 10);
                int f = near(0, 9);
                due("week(" + w + ", " + f + ")", real.week(w, f), model.week(w, f));
            }
        }

        int anyDay() {
            return near(0, model.days.size() - 1);
        }

        void askCalendar() {
            int year = near(0, 99);
            int date = 100 * near(0, 11) + near(0, 40);
            due("day(" + year + ", " + date + ")", real.day(year, date), model.day(year, date));
            int day = anyDay();
            int what = near(0, 3);
            due("date(" + day + ", " + what + ")", real.date(day, what), model.date(day, what));
            int n = below(2) == 0 ? near(-30, 30) : near(-9999, 9999);
            int ending = near(0, 2);
            due("months(" + day + ", " + n + ", " + ending + ")", real.months(day, n, ending),
                model.months(day, n, ending));
            int months = 100 * near(0, 99) + near(0, 11);
            int weekday = near(0, model.w - 1);
            int k = near(0, 4);
            due("nth(" + months + ", " + weekday + ", " + k + ")", real.nth(months, weekday, k),
                model.nth(months, weekday, k));
            int c = near(0, 3);
            due("count(" + c + ")", real.count(c), model.count(c));
        }

        int anyOffset() {
            int roll = below(8);
            if (roll == 0) {
                return 720;
            }
            if (roll == 1) {
                return -720;
            }
            return roll < 5 ? 60 * between(-3, 3) : near(-720, 720);
        }

        void tellZones() {
            int many = between(1, 6);
            for (int i = 0; i < many; i++) {
                tellZone();
                int rules = below(4) == 0 ? between(7, 10) : between(0, 3);
                for (int k = 0; k < rules; k++) {
                    tellRule(Math.min(i, 4));
                }
            }
        }

        void tellZone() {
            int offset = anyOffset();
            due("zone(" + offset + ")", real.zone(offset), model.zone(offset));
        }

        void tellRule(int zone) {
            if (below(4) == 0) {
                int d = model.today + between(0, 40);
                d = below(8) == 0 ? near(model.today, model.today + 9000) : d;
                due("today(" + d + ")", real.today(d), model.setToday(d));
            }
            int z = rarely() ? near(0, 4) : zone;
            int years = below(3) == 0 ? 100 * between(0, 50) + between(50, 99) : 99;
            years = rarely() ? near(0, 9999) : years;
            int month = below(3) == 0 ? (below(2) == 0 ? 0 : 11) : near(0, 11);
            int weekday = below(2) == 0 ? between(0, 1) : near(0, model.w - 1);
            int on = 1000 * month + 10 * weekday + (below(3) == 0 ? 0 : near(0, 4));
            int t = below(2) == 0 ? 30 * between(0, 6) : near(0, 1439);
            int v = anyOffset();
            due("rule(" + z + ", " + years + ", " + on + ", " + t + ", " + v + ")",
                real.rule(z, years, on, t, v), model.rule(z, years, on, t, v));
        }

        void tellMore() {
            int roll = below(8);
            if (roll < 3) {
                int k = below(2) == 0 ? between(0, model.today) : near(0, 99999);
                due("known(" + k + ")", real.known(k), model.setKnown(k));
            } else if (roll < 5) {
                tellRule(below(5));
            } else if (roll == 5) {
                tellZone();
            } else {
                int a = near(2, 10);
                due("week(" + a + ", 0)", real.week(a, 0), model.week(a, 0));
                due("leap(4, 100, 1)", real.leap(4, 100, 1), model.leap(4, 100, 1));
                due("month(0, 30)", real.month(0, 30), model.month(0, 30));
            }
        }

        int anyZone() {
            return rarely() ? near(0, 4) : below(Math.max(1, model.zones.size()));
        }

        /** Often close to a change. */
        int anyMoment() {
            if (below(3) > 0 && !model.zones.isEmpty()) {
                TreeMap<Integer, Integer> taken = model.taken(below(model.zones.size()));
                if (!taken.isEmpty()) {
                    Integer[] all = taken.keySet().toArray(new Integer[0]);
                    return all[below(all.length)] + between(-1500, 1500);
                }
            }
            int end = Math.min(LAST, model.days.size() * 1440 - 1);
            int roll = below(10);
            return roll == 0 ? near(0, LAST) : roll == 1 ? between(0, 1500) : near(0, end);
        }

        void askZone() {
            int z = anyZone();
            int m = anyMoment();
            due("changes(" + z + ")", real.changes(z), model.changes(z));
            int i = near(0, Math.max(0, model.changes(z) - 1));
            due("change(" + z + ", " + i + ")", real.change(z, i), model.change(z, i));
            due("offset(" + z + ", " + m + ")", real.offset(z, m), model.offset(z, m));
            due("wall(" + z + ", " + m + ")", real.wall(z, m), model.wall(z, m));
            due("moments(" + z + ", " + m + ")", real.moments(z, m), model.moments(z, m));
            int k = between(0, 2);
            due("moment(" + z + ", " + m + ", " + k + ")", real.moment(z, m, k), model.moment(z, m, k));
            if (below(4) == 0) {
                askMeetings(z);
            }
        }

        void askMeetings(int z) {
            int at = 10 * (below(2) == 0 ? 30 * between(0, 6) : near(0, 1439)) + near(0, model.w - 1);
            int p = anyDay();
            int q = rarely() ? anyDay() : Math.min(p + between(0, 900), model.days.size() - 1);
            int what = near(0, 2);
            due("meetings(" + z + ", " + at + ", " + p + ", " + q + ", " + what + ")",
                real.meetings(z, at, p, q, what), model.meetings(z, at, p, q, what));
        }

        int program = 0;

        void tellProgram() {
            program = rarely() ? near(0, 5) : below(6);
            due("clear(" + program + ")", real.clear(program), model.clear(program));
            int shape = below(9);
            if (shape == 0) {
                for (int i = between(0, 13); i >= 0; i--) {
                    tellLine(near(0, 11));
                }
            } else if (shape == 1) {
                tellLines(0, 1, 2, 7, 0, 1, 2, 11, 8);
            } else if (shape == 2) {
                tellLines(0, 10, 1, 6, 4, 8, 0, 11, 9);
            } else if (shape == 3) {
                tellLines(0, 1, 2, 6, 3, 4);
            } else if (shape == 4) {
                tellLines(0, 1, 5, 4);
            } else if (shape == 5) {
                tellLines(0, 1, 2, 7, 3, 4);
            } else if (shape == 6) {
                tellLines(0, 1, 6, 4, 5);
            } else if (shape == 7) {
                tellLines(0, 1, 2, 5, 3, 4);
            } else {
                tellLines(0, 1, 4);
            }
            due("mix(" + program + ")", real.mix(program), model.mix(program));
            due("kind(" + program + ")", real.kind(program), model.kind(program));
            int c = near(0, 3);
            due("count(" + c + ")", real.count(c), model.count(c));
        }

        void tellLines(int... ops) {
            for (int op : ops) {
                tellLine(op);
            }
        }

        void tellLine(int op) {
            int x = 0;
            int y = 0;
            if (op == 1 || op == 4) {
                x = anyZone();
                y = op == 4 ? near(0, 1) : 0;
            } else if (op == 3) {
                x = below(2) == 0 ? 30 * between(0, 6) : near(0, 1439);
            } else if (op == 5) {
                x = below(2) == 0 ? 1440 * between(-7, 7) : near(-9999, 9999);
            } else if (op == 6) {
                x = below(3) > 0 ? between(-7, 14) : near(-999, 999);
            } else if (op == 7) {
                x = near(-99, 99);
                y = near(0, 2);
            }
            if (below(60) == 0) {
                y = 1;
            }
            due("line(" + program + ", " + op + ", " + x + ", " + y + ")", real.line(program, op, x, y),
                model.line(program, op, x, y));
        }

        void askProgram() {
            int p = rarely() ? near(0, 5) : program;
            int m = anyMoment();
            due("run(" + p + ", " + m + ")", real.run(p, m), model.run(p, m));
            int law = below(5);
            law = law == 1 || law == 2 ? law + 10 * anyZone() : rarely() ? near(0, 50) : law;
            int v = 0;
            if (law % 10 == 0 || law % 10 == 3) {
                v = below(3) == 0 ? near(-20000, 20000) : 1440 * between(-8, 8);
            } else if (law % 10 == 1) {
                v = below(2) == 0 ? 30 * between(0, 6) : near(0, 1439);
            }
            v = rarely() ? between(-2, 2000) : v;
            due("keeps(" + p + ", " + law + ", " + v + ", " + m + ")", real.keeps(p, law, v, m),
                model.keeps(p, law, v, m));
            int n = below(30) == 0 ? near(0, 2000000) : below(40000);
            String tail = "(" + p + ", " + law + ", " + v + ", " + m + ", " + n + ")";
            due("least" + tail, real.least(p, law, v, m, n), model.least(p, law, v, m, n));
            due("odds(" + m + ", " + (m + n) + ")", real.odds(m, m + n), model.odds(m, m + n));
            int i = near(0, Math.max(0, model.odds(m, m + n) - 1));
            due("odd(" + m + ", " + (m + n) + ", " + i + ")", real.odd(m, m + n, i), model.odd(m, m + n, i));
            n = below(30) == 0 ? near(0, 100000) : below(6000);
            tail = "(" + p + ", " + law + ", " + v + ", " + m + ", " + n + ")";
            due("mend" + tail, real.mend(p, law, v, m, n), model.mend(p, law, v, m, n));
            int asked = model.mended == null ? 1 : model.mended.size() + 1;
            for (int k = 0; k < asked; k++) {
                int what = near(0, 2);
                due("mended(" + k + ", " + what + ")", real.mended(k, what), model.mended(k, what));
            }
        }
    }

    /** A zone as it was told. */
    private static final class Place {
        int offset;
        final List<int[]> rules = new ArrayList<>();
        TreeMap<Integer, Integer> taken;
    }

    /** The document's words, as slowly as they stand. */
    private static final class Model {
        final int[] monthDays = new int[12];
        int a = 4;
        int b = 100;
        int leapMonth = 1;
        int w = 7;
        int f = 0;
        List<int[]> days = new ArrayList<>();
        final Map<Integer, Integer> dayOfDate = new HashMap<>();
        final List<Place> zones = new ArrayList<>();
        int today = 0;
        int known = 99999;
        final List<List<int[]>> programs = new ArrayList<>();
        List<int[]> mended;

        Model() {
            Arrays.fill(monthDays, 30);
            for (int i = 0; i < 6; i++) {
                programs.add(new ArrayList<>());
            }
            spread();
        }

        void spread() {
            days = new ArrayList<>();
            dayOfDate.clear();
            for (int y = 0; y < 100; y++) {
                for (int m = 0; m < 12; m++) {
                    boolean leap = y % a == 0 && !(y % b == 0);
                    int many = monthDays[m] + (leap && m == leapMonth ? 1 : 0);
                    for (int d = 0; d < many; d++) {
                        dayOfDate.put(y * 10000 + m * 100 + d, days.size());
                        days.add(new int[] {y, m, d});
                    }
                }
            }
        }

        boolean in(int n, int low, int high) {
            return n >= low && n <= high;
        }

        int month(int month, int many) {
            if (!in(month, 0, 11) || !in(many, 1, 40)) {
                return -1;
            }
            if (!zones.isEmpty()) {
                return -3;
            }
            int was = monthDays[month];
            monthDays[month] = many;
            spread();
            return was;
        }

        int leap(int a, int b, int m) {
            if (!in(a, 2, 50) || !in(b, 2, 100) || !in(m, 0, 11)) {
                return -1;
            }
            if (!zones.isEmpty()) {
                return -3;
            }
            this.a = a;
            this.b = b;
            leapMonth = m;
            spread();
            return 1;
        }

        int week(int w, int f) {
            if (!in(w, 2, 10) || !in(f, 0, 9)) {
                return -1;
            }
            if (!zones.isEmpty()) {
                return -3;
            }
            this.w = w;
            this.f = f;
            return 1;
        }

        int day(int year, int date) {
            if (!in(year, 0, 99) || !in(date, 0, 1199)) {
                return -1;
            }
            return dayOfDate.getOrDefault(year * 10000 + date, -1);
        }

        int weekday(int day) {
            return (day + f) % w;
        }

        int date(int day, int what) {
            if (!in(day, 0, days.size() - 1) || !in(what, 0, 3)) {
                return -1;
            }
            return what == 3 ? weekday(day) : days.get(day)[what];
        }

        int months(int day, int n, int ending) {
            if (!in(day, 0, days.size() - 1) || !in(n, -9999, 9999) || !in(ending, 0, 2)) {
                return -1;
            }
            int[] d = days.get(day);
            int there = d[0] * 12 + d[1] + n;
            if (!in(there, 0, 1199)) {
                return -6;
            }
            int base = there / 12 * 10000 + there % 12 * 100;
            Integer same = dayOfDate.get(base + d[2]);
            if (same != null) {
                return same;
            }
            if (ending == 2) {
                return -6;
            }
            int last = d[2];
            while (!dayOfDate.containsKey(base + last)) {
                last--;
            }
            int over = ending == 0 ? 0 : d[2] - last;
            int answer = dayOfDate.get(base + last) + over;
            return answer < days.size() ? answer : -6;
        }

        int nth(int months, int weekday, int n) {
            if (!in(months, 0, 9999) || months % 100 > 11 || !in(weekday, 0, w - 1) || !in(n, 0, 4)) {
                return -1;
            }
            List<Integer> such = new ArrayList<>();
            int base = months / 100 * 10000 + months % 100 * 100;
            for (int d = 0; dayOfDate.containsKey(base + d); d++) {
                int day = dayOfDate.get(base + d);
                if (weekday(day) == weekday) {
                    such.add(day);
                }
            }
            if (n == 4 && !such.isEmpty()) {
                return such.get(such.size() - 1);
            }
            return n < such.size() && n < 4 ? such.get(n) : -6;
        }

        int zone(int offset) {
            if (!in(offset, -720, 720)) {
                return -1;
            }
            if (zones.size() == 5) {
                return -2;
            }
            Place place = new Place();
            place.offset = offset;
            zones.add(place);
            return zones.size() - 1;
        }

        boolean isZone(int z) {
            return in(z, 0, zones.size() - 1);
        }

        int rule(int z, int years, int on, int t, int v) {
            if (!isZone(z) || !in(years, 0, 9999) || years / 100 > years % 100 || !in(on, 0, 11999)
                || on / 10 % 100 >= w || on % 10 > 4 || !in(t, 0, 1439) || !in(v, -720, 720)) {
                return -1;
            }
            Place place = zones.get(z);
            if (place.rules.size() == 8) {
                return -2;
            }
            place.rules.add(new int[] {today, years, on, t, v});
            place.taken = null;
            return place.rules.size();
        }

        int setToday(int d) {
            if (!in(d, today, 99999)) {
                return -1;
            }
            int was = today;
            today = d;
            return was;
        }

        int setKnown(int k) {
            if (!in(k, 0, 99999)) {
                return -1;
            }
            int was = known;
            known = k;
            for (Place place : zones) {
                place.taken = null;
            }
            return was;
        }

        /** Moments of the changes that are taken, with their offsets. */
        TreeMap<Integer, Integer> taken(int z) {
            Place place = zones.get(z);
            if (place.taken != null) {
                return place.taken;
            }
            TreeMap<Integer, Integer> said = new TreeMap<>();
            for (int[] rule : place.rules) {
                if (rule[0] > known) {
                    continue;
                }
                for (int y = rule[1] / 100; y <= rule[1] % 100; y++) {
                    int day = nth(100 * y + rule[2] / 1000, rule[2] / 10 % 100, rule[2] % 10);
                    if (day >= 0) {
                        said.put(day * 1440 + rule[3], rule[4]);
                    }
                }
            }
            TreeMap<Integer, Integer> taken = new TreeMap<>();
            int offset = place.offset;
            for (Map.Entry<Integer, Integer> one : said.entrySet()) {
                int moment = one.getKey() - offset;
                if (moment >= 0 && (taken.isEmpty() || moment > taken.lastKey())) {
                    offset = one.getValue();
                    taken.put(moment, offset);
                }
            }
            place.taken = taken;
            return taken;
        }

        int changes(int z) {
            return isZone(z) ? taken(z).size() : -1;
        }

        int change(int z, int i) {
            if (!isZone(z) || !in(i, 0, taken(z).size() - 1)) {
                return -1;
            }
            return new ArrayList<>(taken(z).keySet()).get(i);
        }

        int offsetIn(int z, int m) {
            Map.Entry<Integer, Integer> last = taken(z).floorEntry(m);
            return last == null ? zones.get(z).offset : last.getValue();
        }

        int offset(int z, int m) {
            return isZone(z) && in(m, 0, LAST) ? offsetIn(z, m) : -9999;
        }

        boolean isWall(int wall) {
            return in(wall, 0, days.size() * 1440 - 1);
        }

        int wall(int z, int m) {
            if (!isZone(z) || !in(m, 0, LAST)) {
                return -1;
            }
            int wall = m + offsetIn(z, m);
            return isWall(wall) ? wall : -6;
        }

        List<Integer> all(int z, int wall) {
            List<Integer> all = new ArrayList<>();
            for (int m = Math.max(0, wall - 721); m <= Math.min(LAST, wall + 721); m++) {
                if (m + offsetIn(z, m) == wall) {
                    all.add(m);
                }
            }
            return all;
        }

        int moments(int z, int wall) {
            return isZone(z) && isWall(wall) ? all(z, wall).size() : -1;
        }

        int moment(int z, int wall, int i) {
            if (!isZone(z) || !isWall(wall)) {
                return -1;
            }
            List<Integer> all = all(z, wall);
            return in(i, 0, all.size() - 1) ? all.get(i) : -6;
        }

        boolean isProgram(int p) {
            return in(p, 0, 5);
        }

        int clear(int p) {
            if (!isProgram(p)) {
                return -1;
            }
            int had = programs.get(p).size();
            programs.get(p).clear();
            return had;
        }

        boolean isLine(int op, int x, int y) {
            switch (op) {
                case 1: return isZone(x) && y == 0;
                case 3: return in(x, 0, 1439) && y == 0;
                case 4: return isZone(x) && in(y, 0, 1);
                case 5: return in(x, -9999, 9999) && y == 0;
                case 6: return in(x, -999, 999) && y == 0;
                case 7: return in(x, -99, 99) && in(y, 0, 2);
                default: return in(op, 0, 11) && x == 0 && y == 0;
            }
        }

        int line(int p, int op, int x, int y) {
            if (!isProgram(p) || !isLine(op, x, y)) {
                return -1;
            }
            if (programs.get(p).size() == 10) {
                return -2;
            }
            programs.get(p).add(new int[] {op, x, y});
            return programs.get(p).size() - 1;
        }

        /** The kinds as digits, the last one on top; null if the line does not fit. */
        String kindsBehind(String kinds, int op) {
            String[][] ways = {
                {"", "0"}, {"0", "1"}, {"1", "2"}, {"2", "1"}, {"1", "0"}, {"0", "0", "1", "1"},
                {"1", "1", "2", "2"}, {"2", "2"}, {"00", "3", "11", "3", "22", "3"},
                {"03", "0", "13", "1"}};
            if (op == 10) {
                return kinds.isEmpty() || kinds.length() == 8 ? null : kinds + kinds.charAt(kinds.length() - 1);
            }
            if (op == 11) {
                int n = kinds.length();
                return n < 2 ? null : kinds.substring(0, n - 2) + kinds.charAt(n - 1) + kinds.charAt(n - 2);
            }
            for (int i = 0; i < ways[op].length; i += 2) {
                if (kinds.endsWith(ways[op][i])) {
                    String behind = kinds.substring(0, kinds.length() - ways[op][i].length()) + ways[op][i + 1];
                    return behind.length() > 8 ? null : behind;
                }
            }
            return null;
        }

        int mixOf(List<int[]> lines) {
            String kinds = "";
            for (int i = 0; i < lines.size(); i++) {
                kinds = kindsBehind(kinds, lines.get(i)[0]);
                if (kinds == null) {
                    return i;
                }
            }
            return kinds.length() == 1 ? -6 : lines.size();
        }

        int kindOf(List<int[]> lines) {
            String kinds = "";
            for (int[] line : lines) {
                kinds = kindsBehind(kinds, line[0]);
            }
            return kinds.charAt(0) - '0';
        }

        int mix(int p) {
            return isProgram(p) ? mixOf(programs.get(p)) : -1;
        }

        int kind(int p) {
            if (!isProgram(p)) {
                return -1;
            }
            return mix(p) == -6 ? kindOf(programs.get(p)) : -4;
        }

        int turn(int z, int wall, int y) {
            List<Integer> all = all(z, wall);
            if (!all.isEmpty()) {
                return all.get(y == 0 ? 0 : all.size() - 1);
            }
            if (y == 0) {
                for (int m = Math.max(0, wall - 3000); m <= Math.min(LAST, wall + 3000); m++) {
                    if (m + offsetIn(z, m) > wall) {
                        return m;
                    }
                }
                return -1;
            }
            for (int m = Math.min(LAST, wall + 3000); m >= 0; m--) {
                if (m + offsetIn(z, m) < wall) {
                    return m;
                }
            }
            return -1;
        }

        /** Null if it fails. */
        Integer answer(List<int[]> lines, int input) {
            List<int[]> pile = new ArrayList<>();
            for (int[] line : lines) {
                int n = pile.size();
                int[] top = n > 0 ? pile.get(n - 1) : null;
                int[] under = n > 1 ? pile.get(n - 2) : null;
                int x = line[1];
                int y = line[2];
                switch (line[0]) {
                    case 0: pile.add(new int[] {0, input}); break;
                    case 1: pile.set(n - 1, new int[] {1, top[1] + offsetIn(x, top[1])}); break;
                    case 2: pile.set(n - 1, new int[] {2, top[1] / 1440}); break;
                    case 3: pile.set(n - 1, new int[] {1, top[1] * 1440 + x}); break;
                    case 4: pile.set(n - 1, new int[] {0, turn(x, top[1], y)}); break;
                    case 5: pile.set(n - 1, new int[] {top[0], top[1] + x}); break;
                    case 6: pile.set(n - 1, new int[] {top[0], top[1] + (top[0] == 2 ? x : 1440 * x)}); break;
                    case 7: pile.set(n - 1, new int[] {2, months(top[1], x, y)}); break;
                    case 8:
                        pile.remove(n - 1);
                        pile.set(n - 2, new int[] {3, (top[1] - under[1]) * (top[0] == 2 ? 1440 : 1)});
                        break;
                    case 9:
                        pile.remove(n - 1);
                        pile.set(n - 2, new int[] {under[0], under[1] + top[1]});
                        break;
                    case 10: pile.add(top); break;
                    default: pile.set(n - 1, under); pile.set(n - 2, top); break;
                }
                for (int[] value : pile) {
                    if (!isValue(value[0], value[1])) {
                        return null;
                    }
                }
            }
            return pile.get(0)[1];
        }

        boolean isValue(int kind, int value) {
            switch (kind) {
                case 0: return in(value, 0, LAST);
                case 1: return isWall(value);
                case 2: return in(value, 0, days.size() - 1);
                default: return in(value, -99999999, 99999999);
            }
        }

        int run(int p, int m) {
            if (!isProgram(p) || !in(m, 0, LAST) || mix(p) != -6) {
                return NO_NUMBER;
            }
            Integer answer = answer(programs.get(p), m);
            return answer == null ? NO_NUMBER : answer;
        }

        boolean isLaw(int law, int v) {
            int x = law / 10;
            switch (law < 0 ? 9 : law % 10) {
                case 0:
                case 3: return x == 0;
                case 1: return isZone(x) && in(v, 0, 1439);
                case 2: return isZone(x) && v == 0;
                case 4: return x == 0 && v == 0;
                default: return false;
            }
        }

        boolean keepsLaw(List<int[]> lines, int law, int v, int m) {
            Integer answer = answer(lines, m);
            if (answer == null) {
                return false;
            }
            int kind = kindOf(lines);
            int x = law / 10;
            switch (law % 10) {
                case 0: return kind == 0 && answer >= m + (long) v;
                case 1: return kind == 0 && wall(x, answer) >= 0 && wall(x, answer) % 1440 == v;
                case 2: return kind == 0 && wall(x, answer) >= 0 && wall(x, m) >= 0
                    && weekday(wall(x, answer) / 1440) == weekday(wall(x, m) / 1440);
                case 3: return kind == 3 && answer >= v;
                default: return true;
            }
        }

        int keeps(int p, int law, int v, int m) {
            if (!isProgram(p) || !isLaw(law, v) || !in(m, 0, LAST)) {
                return -1;
            }
            if (mix(p) != -6) {
                return -4;
            }
            return keepsLaw(programs.get(p), law, v, m) ? 1 : 0;
        }

        TreeSet<Integer> oddOnes(int a, int b) {
            TreeSet<Integer> found = new TreeSet<>();
            for (int z = 0; z < zones.size(); z++) {
                for (int m : taken(z).keySet()) {
                    found.add(m - 1);
                    found.add(m);
                    found.add(m + 1);
                }
                // All moments of one day lie within 2880 minutes: far enough ahead of a for those from a on.
                TreeSet<Integer> daysSeen = new TreeSet<>();
                for (int m = Math.max(0, a - 6000); m <= Math.min(LAST, b + 1); m++) {
                    int wall = m + offsetIn(z, m);
                    if (isWall(wall) && daysSeen.add(wall / 1440) && m >= a) {
                        found.add(m);
                        found.add(m - 1);
                    }
                }
            }
            found.add(a);
            found.add(b);
            return new TreeSet<>(found.subSet(a, true, b, true));
        }

        int lastA = -1;
        int lastB = -1;
        int lastState = -1;
        TreeSet<Integer> lastOdd;

        TreeSet<Integer> odd(int a, int b) {
            int state = zones.size() * 1000000 + known;
            for (Place place : zones) {
                state = state * 31 + place.rules.size();
            }
            if (a != lastA || b != lastB || state != lastState) {
                lastOdd = oddOnes(a, b);
                lastA = a;
                lastB = b;
                lastState = state;
            }
            return lastOdd;
        }

        boolean isRange(long a, long b, int most) {
            return a >= 0 && b <= LAST && b >= a && b - a <= most;
        }

        int odds(int a, int b) {
            return isRange(a, b, 2000000) ? odd(a, b).size() : -1;
        }

        int odd(int a, int b, int i) {
            if (!isRange(a, b, 2000000) || !in(i, 0, odd(a, b).size() - 1)) {
                return -1;
            }
            return new ArrayList<>(odd(a, b)).get(i);
        }

        int least(int p, int law, int v, int a, int n) {
            if (!isProgram(p) || !isLaw(law, v) || !isRange(a, (long) a + n, 2000000)) {
                return -1;
            }
            if (mix(p) != -6) {
                return -4;
            }
            for (int m : odd(a, a + n)) {
                if (!keepsLaw(programs.get(p), law, v, m)) {
                    return m;
                }
            }
            return -6;
        }

        List<int[]> others(int[] line) {
            List<int[]> others = new ArrayList<>();
            int op = line[0];
            int x = line[1];
            int y = line[2];
            if (op == 4) {
                others.add(new int[] {4, x, y == 0 ? 1 : 0});
            }
            for (int z = 0; z < zones.size() && (op == 1 || op == 4); z++) {
                if (z != x) {
                    others.add(new int[] {op, z, y});
                }
            }
            if (op == 5 && x != 0 && x % 1440 == 0) {
                others.add(new int[] {6, x / 1440, 0});
            }
            if (op == 6 && in(x * 1440, -9999, 9999)) {
                others.add(new int[] {5, x * 1440, 0});
            }
            for (int e = 0; e < 3 && op == 7; e++) {
                if (e != y) {
                    others.add(new int[] {7, x, e});
                }
            }
            return others;
        }

        boolean isRight(List<int[]> lines, int law, int v, int a, int b) {
            if (mixOf(lines) != -6) {
                return false;
            }
            for (int m : odd(a, b)) {
                if (!keepsLaw(lines, law, v, m)) {
                    return false;
                }
            }
            return true;
        }

        /** All programs with that many lines changed, in the order in which they are tried. */
        List<List<int[]>> changed(List<int[]> lines, int from, int many) {
            List<List<int[]>> all = new ArrayList<>();
            if (many == 0) {
                all.add(new ArrayList<>(lines));
                return all;
            }
            for (int i = from; i < lines.size(); i++) {
                for (int[] other : others(lines.get(i))) {
                    List<int[]> next = new ArrayList<>(lines);
                    next.set(i, other);
                    all.addAll(changed(next, i + 1, many - 1));
                }
            }
            return all;
        }

        int mend(int p, int law, int v, int a, int n) {
            if (!isProgram(p) || !isLaw(law, v) || !isRange(a, (long) a + n, 100000)) {
                return -1;
            }
            for (int many = 0; many <= 2; many++) {
                for (List<int[]> lines : changed(programs.get(p), 0, many)) {
                    if (isRight(lines, law, v, a, a + n)) {
                        mended = lines;
                        return many;
                    }
                }
            }
            mended = null;
            return -6;
        }

        int mended(int i, int what) {
            if (mended == null || !in(i, 0, mended.size() - 1) || !in(what, 0, 2)) {
                return NO_NUMBER;
            }
            return mended.get(i)[what];
        }

        int meetings(int z, int at, int p, int q, int what) {
            if (!isZone(z) || !in(at, 0, 14399) || at % 10 >= w || !in(p, 0, days.size() - 1)
                || !in(q, 0, days.size() - 1) || q < p || q - p > 4000 || !in(what, 0, 2)) {
                return -1;
            }
            int met = 0;
            for (int d = p; d <= q; d++) {
                if (weekday(d) == at % 10) {
                    int many = what == 2 ? 0 : all(z, 1440 * d + at / 10).size();
                    met += what == 2 || (what == 0 ? many == 0 : many > 1) ? 1 : 0;
                }
            }
            return met;
        }

        int count(int what) {
            switch (what) {
                case 0: return zones.size();
                case 1: return programs.stream().mapToInt(List::size).sum();
                case 2: return today;
                case 3: return days.size();
                default: return -1;
            }
        }
    }
}
