/** A bench for programs that reckon with days and clocks; README.md tells how to use it. */
public final class OddHours {
    public static final int NONE = -1, FULL = -2, STATE = -3, MIXED = -4, FAILS = -5, NOT = -6;

    private static final int YEARS = 100, MONTHS = 12, LONGEST_MONTH = 40;
    private static final int DAY_MINUTES = 1440;
    private static final int MOMENTS_END = 60000000;
    private static final int FARTHEST_OFFSET = 720;
    private static final int FARTHEST_SPAN = 99999999;
    private static final int LAST_TOLD_DAY = 99999;
    private static final int MOST_ZONES = 5, MOST_RULES = 8, MOST_CHANGES = MOST_RULES * YEARS;
    private static final int MOST_PROGRAMS = 6, MOST_LINES = 10, MOST_VALUES = 8;
    private static final int WIDEST_RANGE = 2000000, WIDEST_MEND = 100000, WIDEST_MEETINGS = 4000;

    // Stands inside for a day, moment, wall or line that there is not.
    private static final int ABSENT = -1;
    // Answers of calls for which NONE could be a number that is meant.
    private static final int NO_NUMBER = -2000000000, NO_OFFSET = -9999;

    private static final int MOMENT = 0, WALL = 1, DAY = 2, SPAN = 3;

    private static final int IN = 0, SHOW = 1, DATE = 2, AT = 3, TURN = 4, LATER = 5, STEP = 6,
            MONTH = 7, LESS = 8, ADD = 9, KEEP = 10, SWAP = 11, OPS = 12;
    // The numbers that each op takes; the x of SHOW and TURN is a zone and is looked at apart.
    private static final int[] LEAST_X = {0, 0, 0, 0, 0, -9999, -999, -99, 0, 0, 0, 0};
    private static final int[] MOST_X = {0, 0, 0, 1439, 0, 9999, 999, 99, 0, 0, 0, 0};
    private static final int[] MOST_Y = {0, 0, 0, 0, 1, 0, 0, 2, 0, 0, 0, 0};

    private static final int LATER_LAW = 0, MINUTE_LAW = 1, WEEKDAY_LAW = 2, SPAN_LAW = 3, LAWS = 5;

    private final Calendar calendar;
    private final Zones zones;
    private final Program[] programs;
    private final Judge judge;
    private final Odds odds;
    private final Mender mender;
    private int toldToday;
    private int knownOn;

    public OddHours() {
        calendar = new Calendar();
        zones = new Zones();
        programs = new Program[MOST_PROGRAMS];
        for (int i = 0; i < MOST_PROGRAMS; i++) {
            programs[i] = new Program();
        }
        odds = new Odds();
        judge = new Judge(calendar, zones, odds);
        mender = new Mender(zones, judge);
        knownOn = LAST_TOLD_DAY;
    }

    // ---- the calendar

    public int month(int month, int days) {
        if (!isMonth(month) || days < 1 || days > LONGEST_MONTH) {
            return NONE;
        }
        if (zones.size > 0) {
            return STATE;
        }
        int before = calendar.monthDays[month];
        calendar.monthDays[month] = days;
        calendar.reckon();
        return before;
    }

    public int leap(int a, int b, int m) {
        if (a < 2 || a > 50 || b < 2 || b > 100 || !isMonth(m)) {
            return NONE;
        }
        if (zones.size > 0) {
            return STATE;
        }
        calendar.leapEach = a;
        calendar.leapNever = b;
        calendar.leapMonth = m;
        calendar.reckon();
        return 1;
    }

    public int week(int w, int f) {
        if (w < 2 || w > 10 || f < 0 || f > 9) {
            return NONE;
        }
        if (zones.size > 0) {
            return STATE;
        }
        calendar.weekDays = w;
        calendar.firstWeekday = f;
        return 1;
    }

    public int day(int year, int date) {
        if (!isYear(year) || date < 0 || !isMonth(date / 100)) {
            return NONE;
        }
        int month = date / 100;
        int inMonth = date % 100;
        if (inMonth >= calendar.daysIn(year, month)) {
            return NONE;
        }
        return calendar.firstDay(year, month) + inMonth;
    }

    public int date(int day, int what) {
        if (!calendar.has(day) || what < 0 || what > 3) {
            return NONE;
        }
        if (what == 3) {
            return calendar.weekdayOf(day);
        }
        int year = calendar.yearOf(day);
        if (what == 0) {
            return year;
        }
        int month = calendar.monthOf(year, day);
        return what == 1 ? month : day - calendar.firstDay(year, month);
    }

    public int months(int day, int n, int ending) {
        if (!calendar.has(day) || n < -9999 || n > 9999 || ending < 0 || ending > 2) {
            return NONE;
        }
        int there = calendar.monthsOn(day, n, ending);
        return there == ABSENT ? NOT : there;
    }

    public int nth(int months, int weekday, int n) {
        if (months < 0 || !isYear(months / 100) || !isMonth(months % 100)
                || !calendar.isWeekday(weekday) || n < 0 || n > 4) {
            return NONE;
        }
        int day = calendar.nthWeekday(months / 100, months % 100, weekday, n);
        return day == ABSENT ? NOT : day;
    }

    // ---- zones

    public int zone(int offset) {
        if (!isOffset(offset)) {
            return NONE;
        }
        if (zones.size >= MOST_ZONES) {
            return FULL;
        }
        odds.forget();
        return zones.make(offset);
    }

    public int rule(int zone, int years, int on, int t, int v) {
        Zone z = zones.at(zone);
        if (z == null || years < 0 || years / 100 >= YEARS || years / 100 > years % 100) {
            return NONE;
        }
        int month = on / 1000;
        int weekday = on / 10 % 100;
        int n = on % 10;
        if (on < 0 || !isMonth(month) || !calendar.isWeekday(weekday) || n > 4
                || !isMinute(t) || !isOffset(v)) {
            return NONE;
        }
        if (z.rules >= MOST_RULES) {
            return FULL;
        }
        int number = z.tell(toldToday, v);
        for (int year = years / 100; year <= years % 100; year++) {
            int day = calendar.nthWeekday(year, month, weekday, n);
            if (day != ABSENT) {
                z.ruleWalls[number * YEARS + year] = day * DAY_MINUTES + t;
            }
        }
        odds.forget();
        return z.rules;
    }

    public int today(int d) {
        if (d < toldToday || d > LAST_TOLD_DAY) {
            return NONE;
        }
        int before = toldToday;
        toldToday = d;
        return before;
    }

    public int known(int k) {
        if (k < 0 || k > LAST_TOLD_DAY) {
            return NONE;
        }
        int before = knownOn;
        knownOn = k;
        odds.forget();
        return before;
    }

    public int changes(int zone) {
        Zone z = freshZone(zone);
        return z == null ? NONE : z.changes;
    }

    public int change(int zone, int i) {
        Zone z = freshZone(zone);
        if (z == null || i < 0 || i >= z.changes) {
            return NONE;
        }
        return z.starts[i + 1];
    }

    public int offset(int zone, int moment) {
        Zone z = freshZone(zone);
        if (z == null || !isMoment(moment)) {
            return NO_OFFSET;
        }
        return z.offsetAt(moment);
    }

    public int wall(int zone, int moment) {
        Zone z = freshZone(zone);
        if (z == null || !isMoment(moment)) {
            return NONE;
        }
        int wall = moment + z.offsetAt(moment);
        return calendar.hasWall(wall) ? wall : NOT;
    }

    public int moments(int zone, int wall) {
        Zone z = freshZone(zone);
        if (z == null || !calendar.hasWall(wall)) {
            return NONE;
        }
        return z.momentsOf(wall);
    }

    public int moment(int zone, int wall, int i) {
        Zone z = freshZone(zone);
        if (z == null || !calendar.hasWall(wall)) {
            return NONE;
        }
        int moment = z.momentOf(wall, i);
        return moment == ABSENT ? NOT : moment;
    }

    // ---- programs

    public int clear(int program) {
        Program p = programAt(program);
        if (p == null) {
            return NONE;
        }
        int before = p.size;
        p.empty();
        return before;
    }

    public int line(int program, int op, int x, int y) {
        Program p = programAt(program);
        if (p == null || op < 0 || op >= OPS || y < 0 || y > MOST_Y[op]) {
            return NONE;
        }
        boolean zoned = op == SHOW || op == TURN;
        if (x < LEAST_X[op] || (zoned ? x >= zones.size : x > MOST_X[op])) {
            return NONE;
        }
        if (p.size >= MOST_LINES) {
            return FULL;
        }
        p.append(op, x, y);
        return p.size - 1;
    }

    public int mix(int program) {
        Program p = programAt(program);
        if (p == null) {
            return NONE;
        }
        return p.misfit == ABSENT ? NOT : p.misfit;
    }

    public int kind(int program) {
        Program p = programAt(program);
        if (p == null) {
            return NONE;
        }
        return p.misfit == ABSENT ? p.answerKind : MIXED;
    }

    public int run(int program, int moment) {
        Program p = programAt(program);
        if (p == null || !isMoment(moment) || p.misfit != ABSENT) {
            return NO_NUMBER;
        }
        zones.refresh(knownOn);
        return judge.machine.answerOf(p, moment);
    }

    public int keeps(int program, int law, int v, int moment) {
        Program p = programAt(program);
        if (p == null || !isLaw(law, v) || !isMoment(moment)) {
            return NONE;
        }
        if (p.misfit != ABSENT) {
            return MIXED;
        }
        zones.refresh(knownOn);
        judge.hear(law % 10, law / 10, v);
        return judge.holds(p.answerKind, judge.machine.answerOf(p, moment), moment) ? 1 : 0;
    }

    public int odds(int a, int b) {
        if (!isRange(a, b)) {
            return NONE;
        }
        gatherOdds(a, b);
        return odds.count;
    }

    public int odd(int a, int b, int i) {
        if (i < 0 || !isRange(a, b)) {
            return NONE;
        }
        gatherOdds(a, b);
        return i < odds.count ? odds.list[i] : NONE;
    }

    public int least(int program, int law, int v, int a, int n) {
        Program p = programAt(program);
        if (p == null || !isLaw(law, v) || !isReach(a, n, WIDEST_RANGE)) {
            return NONE;
        }
        if (p.misfit != ABSENT) {
            return MIXED;
        }
        gatherOdds(a, a + n);
        judge.hear(law % 10, law / 10, v);
        int broken = judge.firstBroken(p);
        return broken == ABSENT ? NOT : broken;
    }

    public int mend(int program, int law, int v, int a, int n) {
        Program p = programAt(program);
        if (p == null || !isLaw(law, v) || !isReach(a, n, WIDEST_MEND)) {
            return NONE;
        }
        gatherOdds(a, a + n);
        judge.hear(law % 10, law / 10, v);
        int changed = mender.search(p);
        return changed == ABSENT ? NOT : changed;
    }

    public int mended(int i, int what) {
        Program p = mender.found;
        if (i < 0 || i >= p.size || what < 0 || what > 2) {
            return NO_NUMBER;
        }
        if (what == 0) {
            return p.ops[i];
        }
        return what == 1 ? p.xs[i] : p.ys[i];
    }

    // ---- meetings

    public int meetings(int zone, int at, int p, int q, int what) {
        Zone z = freshZone(zone);
        if (z == null || at < 0 || !isMinute(at / 10) || !calendar.isWeekday(at % 10)) {
            return NONE;
        }
        if (!calendar.has(p) || !calendar.has(q) || q < p || q - p > WIDEST_MEETINGS
                || what < 0 || what > 2) {
            return NONE;
        }
        int stride = Math.max(1, calendar.weekDays);
        int first = p + rest(at % 10 - calendar.weekdayOf(p), stride);
        int met = 0;
        for (int day = first; day <= q; day += stride) {
            if (what == 2) {
                met++;
                continue;
            }
            int many = z.momentsOf(day * DAY_MINUTES + at / 10);
            if (what == 0 ? many == 0 : many > 1) {
                met++;
            }
        }
        return met;
    }

    public int count(int what) {
        switch (what) {
            case 0:
                return zones.size;
            case 1:
                return allLines();
            case 2:
                return toldToday;
            case 3:
                return calendar.days();
            default:
                return NONE;
        }
    }

    private int allLines() {
        int lines = 0;
        for (int i = 0; i < MOST_PROGRAMS; i++) {
            Program p = programs[i];
            lines += p == null ? 0 : p.size;
        }
        return lines;
    }

    private Program programAt(int i) {
        return i >= 0 && i < MOST_PROGRAMS ? programs[i] : null;
    }

    // Changes are taken anew here and not in rule() or known(): many of those may come in a row.
    private Zone freshZone(int i) {
        Zone z = zones.at(i);
        if (z != null) {
            z.refresh(knownOn);
        }
        return z;
    }

    private void gatherOdds(int a, int b) {
        zones.refresh(knownOn);
        odds.gather(a, b, zones, calendar.days());
    }

    private boolean isLaw(int law, int v) {
        int which = law % 10;
        int x = law / 10;
        if (law < 0 || which >= LAWS) {
            return false;
        }
        switch (which) {
            case MINUTE_LAW:
                return x < zones.size && isMinute(v);
            case WEEKDAY_LAW:
                return x < zones.size && v == 0;
            case LATER_LAW:
            case SPAN_LAW:
                return x == 0;
            default:
                return x == 0 && v == 0;
        }
    }

    private static boolean isYear(int year) {
        return year >= 0 && year < YEARS;
    }

    private static boolean isMonth(int month) {
        return month >= 0 && month < MONTHS;
    }

    private static boolean isMinute(int minute) {
        return minute >= 0 && minute < DAY_MINUTES;
    }

    private static boolean isOffset(int offset) {
        return offset >= -FARTHEST_OFFSET && offset <= FARTHEST_OFFSET;
    }

    private static boolean isMoment(int moment) {
        return moment >= 0 && moment < MOMENTS_END;
    }

    private static boolean isRange(int a, int b) {
        return isMoment(a) && isMoment(b) && a <= b && b - a <= WIDEST_RANGE;
    }

    private static boolean isReach(int a, int n, int most) {
        return isMoment(a) && n >= 0 && n <= most && isMoment(a + n);
    }

    private static int rest(int n, int by) {
        return by > 0 ? Math.floorMod(n, by) : 0;
    }

    /** Years, months and weeks; all that is asked of a day has been looked at by has(). */
    private static final class Calendar {
        final int[] monthDays = new int[MONTHS];
        // Of a year that is not leap.
        final int[] monthStart = new int[MONTHS];
        final int[] leapDays = new int[YEARS];
        final int[] yearStart = new int[YEARS + 1];
        int leapEach = 4;
        int leapNever = 100;
        int leapMonth = 1;
        int weekDays = 7;
        int firstWeekday = 0;

        Calendar() {
            for (int m = 0; m < MONTHS; m++) {
                monthDays[m] = 30;
            }
            reckon();
        }

        void reckon() {
            int length = 0;
            for (int m = 0; m < MONTHS; m++) {
                monthStart[m] = length;
                length += monthDays[m];
            }
            for (int y = 0; y < YEARS; y++) {
                boolean isLeap = rest(y, leapEach) == 0 && rest(y, leapNever) != 0;
                leapDays[y] = isLeap ? 1 : 0;
                yearStart[y + 1] = yearStart[y] + length + leapDays[y];
            }
        }

        int days() {
            return yearStart[YEARS];
        }

        boolean has(int day) {
            return day >= 0 && day < days();
        }

        boolean hasWall(int wall) {
            return wall >= 0 && wall < days() * DAY_MINUTES;
        }

        boolean isWeekday(int weekday) {
            return weekday >= 0 && weekday < weekDays;
        }

        int weekdayOf(int day) {
            return rest(day + firstWeekday, weekDays);
        }

        int daysIn(int year, int month) {
            return monthDays[month] + (month == leapMonth ? leapDays[year] : 0);
        }

        int firstDay(int year, int month) {
            return yearStart[year] + monthStart[month] + (month > leapMonth ? leapDays[year] : 0);
        }

        int yearOf(int day) {
            int year = 0;
            for (int step = 64; step > 0; step >>= 1) {
                if (year + step < YEARS && yearStart[year + step] <= day) {
                    year += step;
                }
            }
            return year;
        }

        int monthOf(int year, int day) {
            int inYear = day - yearStart[year];
            int month = 0;
            for (int m = 1; m < MONTHS; m++) {
                int start = monthStart[m] + (m > leapMonth ? leapDays[year] : 0);
                if (start <= inYear) {
                    month = m;
                }
            }
            return month;
        }

        int monthsOn(int day, int n, int ending) {
            int year = yearOf(day);
            int month = monthOf(year, day);
            int inMonth = day - firstDay(year, month);
            int target = year * MONTHS + month + n;
            if (target < 0 || target >= YEARS * MONTHS) {
                return ABSENT;
            }
            int first = firstDay(target / MONTHS, target % MONTHS);
            int length = daysIn(target / MONTHS, target % MONTHS);
            int there = first + inMonth;
            if (inMonth >= length && ending == 2) {
                return ABSENT;
            }
            if (inMonth >= length && ending == 0) {
                there = first + length - 1;
            }
            return has(there) ? there : ABSENT;
        }

        int nthWeekday(int year, int month, int weekday, int n) {
            int first = firstDay(year, month);
            int length = daysIn(year, month);
            int stride = Math.max(1, weekDays);
            int inMonth = rest(weekday - weekdayOf(first), stride);
            if (n < 4) {
                inMonth += n * stride;
            } else if (inMonth < length) {
                inMonth += (length - 1 - inMonth) / stride * stride;
            }
            return inMonth < length ? first + inMonth : ABSENT;
        }
    }

    /** The zones that there are, in the order in which they were made. */
    private static final class Zones {
        final Zone[] all = new Zone[MOST_ZONES];
        int size;

        Zone at(int i) {
            return i >= 0 && i < size ? all[i] : null;
        }

        int make(int offset) {
            if (size >= MOST_ZONES) {
                return ABSENT;
            }
            all[size] = new Zone(offset);
            size++;
            return size - 1;
        }

        void refresh(int known) {
            for (int i = 0; i < size; i++) {
                Zone z = all[i];
                if (z != null) {
                    z.refresh(known);
                }
            }
        }
    }

    /**
     * A zone's rules, and what comes of those that are known: stretches of moments with one offset
     * each. Stretch 0 is that ahead of the first change, stretch i begins with change i - 1.
     */
    private static final class Zone {
        final int[] toldOn = new int[MOST_RULES];
        final int[] ruleOffset = new int[MOST_RULES];
        // A rule's wall in each year: no calendar is told any more once there is a zone.
        final int[] ruleWalls = new int[MOST_RULES * YEARS];
        final int[] yearWalls = new int[MOST_RULES];
        final int[] yearOffsets = new int[MOST_RULES];
        final int[] starts = new int[MOST_CHANGES + 1];
        // The first moment behind each stretch; starts may lie behind the last moment, ends do not.
        final int[] ends = new int[MOST_CHANGES + 1];
        final int[] offsets = new int[MOST_CHANGES + 1];
        int rules;
        int rulesTaken;
        int changes;

        Zone(int offset) {
            offsets[0] = offset;
            ends[0] = MOMENTS_END;
            for (int i = 0; i < ruleWalls.length; i++) {
                ruleWalls[i] = ABSENT;
            }
        }

        int tell(int today, int offset) {
            if (rules >= MOST_RULES) {
                return MOST_RULES - 1;
            }
            toldOn[rules] = today;
            ruleOffset[rules] = offset;
            rules++;
            return rules - 1;
        }

        // Rules are told in order of day, so that their number tells which ones are known.
        void refresh(int known) {
            int knownRules = 0;
            for (int r = 0; r < rules; r++) {
                if (toldOn[r] <= known) {
                    knownRules++;
                }
            }
            if (knownRules != rulesTaken) {
                rulesTaken = knownRules;
                takeChanges();
            }
        }

        // Each rule has one wall a year at most, and that lies in it: year by year is in order.
        void takeChanges() {
            changes = 0;
            for (int year = 0; year < YEARS; year++) {
                int many = sortYear(year);
                for (int i = 0; i < many; i++) {
                    take(yearWalls[i], yearOffsets[i]);
                }
            }
            for (int j = 0; j < changes; j++) {
                ends[j] = Math.min(starts[j + 1], MOMENTS_END);
            }
            ends[changes] = MOMENTS_END;
        }

        int sortYear(int year) {
            int many = 0;
            for (int r = 0; r < rulesTaken; r++) {
                int wall = ruleWalls[r * YEARS + year];
                if (wall == ABSENT) {
                    continue;
                }
                int at = many;
                while (at > 0 && yearWalls[at - 1] >= wall) {
                    at--;
                }
                boolean sameWall = at < many && yearWalls[at] == wall;
                if (!sameWall) {
                    for (int i = many; i > at; i--) {
                        yearWalls[i] = yearWalls[i - 1];
                        yearOffsets[i] = yearOffsets[i - 1];
                    }
                    many++;
                }
                yearWalls[at] = wall;
                yearOffsets[at] = ruleOffset[r];
            }
            return many;
        }

        void take(int wall, int offset) {
            int moment = wall - offsets[changes];
            boolean isBehind = changes == 0 || moment > starts[changes];
            if (moment < 0 || !isBehind || changes >= MOST_CHANGES) {
                return;
            }
            changes++;
            starts[changes] = moment;
            offsets[changes] = offset;
        }

        /** The stretch of a moment; for a count below 0 the first one. */
        int stretchAt(int moment) {
            int at = 0;
            for (int step = 512; step > 0; step >>= 1) {
                if (at + step <= changes && starts[at + step] <= moment) {
                    at += step;
                }
            }
            return at;
        }

        int offsetAt(int moment) {
            return offsets[stretchAt(moment)];
        }

        int momentsOf(int wall) {
            int many = 0;
            int j = stretchAt(wall - FARTHEST_OFFSET);
            for (; j <= changes && starts[j] <= wall + FARTHEST_OFFSET; j++) {
                int moment = wall - offsets[j];
                if (moment >= starts[j] && moment < ends[j]) {
                    many++;
                }
            }
            return many;
        }

        int momentOf(int wall, int i) {
            int many = 0;
            int j = stretchAt(wall - FARTHEST_OFFSET);
            for (; j <= changes && starts[j] <= wall + FARTHEST_OFFSET; j++) {
                int moment = wall - offsets[j];
                if (moment >= starts[j] && moment < ends[j]) {
                    if (many == i) {
                        return moment;
                    }
                    many++;
                }
            }
            return ABSENT;
        }

        /** What TURN makes of a wall, or ABSENT. */
        int turned(int wall, boolean wantsLast) {
            int found = ABSENT;
            int first = stretchAt(wall - FARTHEST_OFFSET);
            for (int j = first; j <= changes && starts[j] <= wall + FARTHEST_OFFSET; j++) {
                int moment = wall - offsets[j];
                if (moment >= starts[j] && moment < ends[j] && (wantsLast || found == ABSENT)) {
                    found = moment;
                }
            }
            if (found != ABSENT) {
                return found;
            }
            return wantsLast ? lastAhead(wall) : firstBehind(wall, first);
        }

        int firstBehind(int wall, int firstStretch) {
            for (int j = firstStretch; j <= changes; j++) {
                int moment = Math.max(starts[j], wall + 1 - offsets[j]);
                if (moment < ends[j]) {
                    return moment;
                }
            }
            return ABSENT;
        }

        int lastAhead(int wall) {
            for (int j = changes; j >= 0; j--) {
                int moment = Math.min(ends[j], wall - offsets[j]) - 1;
                if (moment >= starts[j]) {
                    return moment;
                }
            }
            return ABSENT;
        }

        /** The first moment of a day, sought from a stretch on that is not behind it, or ABSENT. */
        int firstOfDay(int day, int firstStretch) {
            int begin = day * DAY_MINUTES;
            int end = begin + DAY_MINUTES;
            for (int j = firstStretch; j <= changes && starts[j] < end + FARTHEST_OFFSET; j++) {
                int moment = Math.max(starts[j], begin - offsets[j]);
                if (moment < ends[j] && moment + offsets[j] < end) {
                    return moment;
                }
            }
            return ABSENT;
        }
    }

    /** Lines, and what their kinds come to: that is reckoned whenever a line is put. */
    private static final class Program {
        final int[] ops = new int[MOST_LINES];
        final int[] xs = new int[MOST_LINES];
        final int[] ys = new int[MOST_LINES];
        // The kind on top behind each line, as far as the lines fit.
        final int[] tops = new int[MOST_LINES];
        final int[] kinds = new int[MOST_VALUES];
        int height;
        int size;
        // The line of MIX, as many as there are if the end is wrong, or ABSENT: it is whole.
        int misfit;
        int answerKind;

        void empty() {
            size = 0;
            fit();
        }

        void append(int op, int x, int y) {
            if (size < MOST_LINES) {
                size++;
                replace(size - 1, op, x, y);
            }
        }

        void replace(int i, int op, int x, int y) {
            if (i >= 0 && i < size) {
                ops[i] = op;
                xs[i] = x;
                ys[i] = y;
                fit();
            }
        }

        void copyFrom(Program other) {
            size = other.size;
            for (int i = 0; i < size; i++) {
                ops[i] = other.ops[i];
                xs[i] = other.xs[i];
                ys[i] = other.ys[i];
            }
            fit();
        }

        void fit() {
            height = 0;
            for (int i = 0; i < size; i++) {
                if (!fits(ops[i])) {
                    misfit = i;
                    return;
                }
                tops[i] = height > 0 ? kinds[height - 1] : ABSENT;
            }
            misfit = height == 1 ? ABSENT : size;
            answerKind = kinds[0];
        }

        /** Works on the kinds alone; behind a line that fits there is a value at least. */
        boolean fits(int op) {
            int top = height > 0 ? kinds[height - 1] : ABSENT;
            switch (op) {
                case IN:
                    return push(MOMENT);
                case SHOW:
                    return become(MOMENT, WALL);
                case DATE:
                    return become(WALL, DAY);
                case AT:
                    return become(DAY, WALL);
                case TURN:
                    return become(WALL, MOMENT);
                case LATER:
                    return top == MOMENT || top == WALL;
                case STEP:
                    return top == DAY || top == WALL;
                case MONTH:
                    return top == DAY;
                case KEEP:
                    return top != ABSENT && push(top);
                default:
                    return height >= 2 && pairFits(op, kinds[height - 2], top);
            }
        }

        boolean push(int kind) {
            if (height >= MOST_VALUES) {
                return false;
            }
            kinds[height] = kind;
            height++;
            return true;
        }

        boolean become(int from, int to) {
            if (height < 1 || kinds[height - 1] != from) {
                return false;
            }
            kinds[height - 1] = to;
            return true;
        }

        boolean pairFits(int op, int under, int top) {
            if (height < 2) {
                return false;
            }
            if (op == SWAP) {
                kinds[height - 2] = top;
                kinds[height - 1] = under;
                return true;
            }
            boolean isLess = op == LESS && under == top && top != SPAN;
            boolean isSum = op == ADD && top == SPAN && (under == MOMENT || under == WALL);
            if (isLess) {
                kinds[height - 2] = SPAN;
            }
            if (isLess || isSum) {
                height--;
            }
            return isLess || isSum;
        }
    }

    /** Runs programs that are whole. */
    private static final class Machine {
        final Calendar calendar;
        final Zones zones;
        final int[] pile = new int[MOST_VALUES];

        Machine(Calendar calendar, Zones zones) {
            this.calendar = calendar;
            this.zones = zones;
        }

        /** What a program answers, or NO_NUMBER: it fails. */
        int answerOf(Program p, int input) {
            int height = 0;
            for (int i = 0; i < p.size; i++) {
                int op = p.ops[i];
                int needed = op == IN ? 0 : op == LESS || op == ADD || op == SWAP ? 2 : 1;
                if (height < needed || height >= MOST_VALUES && (op == IN || op == KEEP)) {
                    return NO_NUMBER;
                }
                if (op == IN) {
                    pile[height] = input;
                    height++;
                } else if (op == KEEP) {
                    pile[height] = pile[height - 1];
                    height++;
                } else if (op == SWAP) {
                    int top = pile[height - 1];
                    pile[height - 1] = pile[height - 2];
                    pile[height - 2] = top;
                } else {
                    int value = needed == 2 ? joined(p, i, pile[height - 2], pile[height - 1])
                            : changed(p, i, pile[height - 1]);
                    if (!isWithin(p.tops[i], value)) {
                        return NO_NUMBER;
                    }
                    height = needed == 2 ? height - 1 : height;
                    pile[height - 1] = value;
                }
            }
            return height == 1 ? pile[0] : NO_NUMBER;
        }

        int joined(Program p, int i, int under, int top) {
            if (p.ops[i] == ADD) {
                return under + top;
            }
            boolean areDays = i > 0 && p.tops[i - 1] == DAY;
            return areDays ? (top - under) * DAY_MINUTES : top - under;
        }

        int changed(Program p, int i, int value) {
            int x = p.xs[i];
            int y = p.ys[i];
            Zone z = zones.at(x);
            switch (p.ops[i]) {
                case SHOW:
                    return z == null ? NO_NUMBER : value + z.offsetAt(value);
                case DATE:
                    return value / DAY_MINUTES;
                case AT:
                    return value * DAY_MINUTES + x;
                case TURN:
                    return z == null ? NO_NUMBER : z.turned(value, y == 1);
                case LATER:
                    return value + x;
                case STEP:
                    return p.tops[i] == DAY ? value + x : value + x * DAY_MINUTES;
                case MONTH:
                    return calendar.monthsOn(value, x, y);
                default:
                    return NO_NUMBER;
            }
        }

        boolean isWithin(int kind, int value) {
            switch (kind) {
                case MOMENT:
                    return isMoment(value);
                case WALL:
                    return calendar.hasWall(value);
                case DAY:
                    return calendar.has(value);
                default:
                    return value >= -FARTHEST_SPAN && value <= FARTHEST_SPAN;
            }
        }
    }

    /** The odd moments of a range; kept, as many calls may ask for the same ones. */
    private static final class Odds {
        // A bit for each moment of the range puts them in order, each once.
        final long[] marks = new long[WIDEST_RANGE / 64 + 1];
        // In a zone 3 for each change, and 2 for each of some 1393 days that can begin in a range.
        final int[] list = new int[MOST_ZONES * (3 * MOST_CHANGES + 2 * 1400) + 2];
        int count;
        int from;
        int to;
        boolean isHeld;

        void forget() {
            isHeld = false;
        }

        void gather(int a, int b, Zones zones, int days) {
            if (isHeld && a == from && b == to) {
                return;
            }
            isHeld = true;
            from = a;
            to = b;
            int words = Math.min((b - a) / 64 + 1, marks.length);
            for (int i = 0; i < words; i++) {
                marks[i] = 0L;
            }
            mark(a);
            mark(b);
            for (int i = 0; i < zones.size; i++) {
                Zone z = zones.at(i);
                if (z != null) {
                    markChanges(z);
                    markDays(z, days);
                }
            }
            listMarks(words);
        }

        void mark(int moment) {
            int at = moment - from;
            if (at >= 0 && moment <= to && at / 64 < marks.length) {
                marks[at / 64] |= 1L << (at % 64);
            }
        }

        // The ends of the range are marked anyway, so that what lies beyond has no share in it.
        void markChanges(Zone z) {
            for (int j = z.stretchAt(from - 1) + 1; j <= z.changes && z.starts[j] <= to; j++) {
                mark(z.starts[j] - 1);
                mark(z.starts[j]);
                mark(z.starts[j] + 1);
            }
        }

        // A day may begin behind the next one where clocks go back by a whole day: each is sought.
        void markDays(Zone z, int days) {
            int firstDay = Math.max(0, (from - FARTHEST_OFFSET) / DAY_MINUTES - 1);
            int lastDay = Math.min(days - 1, (to + FARTHEST_OFFSET) / DAY_MINUTES);
            int stretch = z.stretchAt(firstDay * DAY_MINUTES - FARTHEST_OFFSET);
            for (int day = firstDay; day <= lastDay; day++) {
                int earliest = day * DAY_MINUTES - FARTHEST_OFFSET;
                while (stretch < z.changes && z.starts[stretch + 1] <= earliest) {
                    stretch++;
                }
                int moment = z.firstOfDay(day, stretch);
                if (moment != ABSENT) {
                    mark(moment - 1);
                    mark(moment);
                }
            }
        }

        void listMarks(int words) {
            count = 0;
            for (int i = 0; i < words; i++) {
                long left = marks[i];
                for (int k = 0; k < 64 && left != 0L && count < list.length; k++) {
                    long lowest = left & -left;
                    list[count] = from + i * 64 + Long.bitCount(lowest - 1L);
                    count++;
                    left ^= lowest;
                }
            }
        }
    }

    /** Looks at what programs answer by the law that was heard last. */
    private static final class Judge {
        final Calendar calendar;
        final Zones zones;
        final Machine machine;
        final Odds odds;
        int law;
        int lawZone;
        int number;
        // Where the latest program of a search broke the law: the next one often breaks it there.
        int suspect;

        Judge(Calendar calendar, Zones zones, Odds odds) {
            this.calendar = calendar;
            this.zones = zones;
            this.odds = odds;
            machine = new Machine(calendar, zones);
        }

        void hear(int law, int lawZone, int number) {
            this.law = law;
            this.lawZone = lawZone;
            this.number = number;
        }

        boolean holds(int kind, int answer, int input) {
            if (answer == NO_NUMBER) {
                return false;
            }
            switch (law) {
                case LATER_LAW:
                    return kind == MOMENT && answer - input >= number;
                case MINUTE_LAW:
                    return kind == MOMENT && isAtMinute(answer);
                case WEEKDAY_LAW:
                    return kind == MOMENT && haveSameWeekday(answer, input);
                case SPAN_LAW:
                    return kind == SPAN && answer >= number;
                default:
                    return true;
            }
        }

        boolean isAtMinute(int moment) {
            int wall = lawWall(moment);
            return wall != ABSENT && wall % DAY_MINUTES == number;
        }

        boolean haveSameWeekday(int one, int other) {
            int wall = lawWall(one);
            int otherWall = lawWall(other);
            if (wall == ABSENT || otherWall == ABSENT) {
                return false;
            }
            return calendar.weekdayOf(wall / DAY_MINUTES)
                    == calendar.weekdayOf(otherWall / DAY_MINUTES);
        }

        // ABSENT for a wall that lies on no day: it has no minute and no weekday there.
        int lawWall(int moment) {
            Zone z = zones.at(lawZone);
            int wall = z == null ? ABSENT : moment + z.offsetAt(moment);
            return calendar.hasWall(wall) ? wall : ABSENT;
        }

        int firstBroken(Program p) {
            for (int i = 0; i < odds.count; i++) {
                int moment = odds.list[i];
                if (!holds(p.answerKind, machine.answerOf(p, moment), moment)) {
                    return moment;
                }
            }
            return ABSENT;
        }

        /** Whether a program is whole and keeps the law for all odd moments. */
        boolean isRight(Program p) {
            if (p.misfit != ABSENT) {
                return false;
            }
            for (int i = -1; i < odds.count; i++) {
                int moment = i < 0 ? suspect : odds.list[i];
                if (!holds(p.answerKind, machine.answerOf(p, moment), moment)) {
                    suspect = moment;
                    return false;
                }
            }
            return true;
        }
    }

    /** Seeks the first change of fewest lines that puts a program right. */
    private static final class Mender {
        // TURN has most: the other y, and each zone but its own.
        private static final int MOST_EDITS = MOST_LINES * MOST_ZONES;

        final Zones zones;
        final Judge judge;
        final Program trial = new Program();
        final Program found = new Program();
        // All changes of one line, in the order in which they are tried.
        final int[] editLines = new int[MOST_EDITS];
        final int[] editOps = new int[MOST_EDITS];
        final int[] editXs = new int[MOST_EDITS];
        final int[] editYs = new int[MOST_EDITS];
        int edits;

        Mender(Zones zones, Judge judge) {
            this.zones = zones;
            this.judge = judge;
        }

        /** How many lines are changed, or ABSENT: then nothing is found. */
        int search(Program p) {
            judge.suspect = judge.odds.from;
            trial.copyFrom(p);
            listEdits(p);
            if (judge.isRight(trial)) {
                return keepTrial(0);
            }
            for (int e = 0; e < edits; e++) {
                put(e);
                if (judge.isRight(trial)) {
                    return keepTrial(1);
                }
                undo(p, e);
            }
            for (int e = 0; e < edits; e++) {
                put(e);
                for (int f = e + 1; f < edits; f++) {
                    if (editLines[f] == editLines[e]) {
                        continue;
                    }
                    put(f);
                    if (judge.isRight(trial)) {
                        return keepTrial(2);
                    }
                    undo(p, f);
                }
                undo(p, e);
            }
            found.empty();
            return ABSENT;
        }

        int keepTrial(int changed) {
            found.copyFrom(trial);
            return changed;
        }

        void put(int e) {
            trial.replace(editLines[e], editOps[e], editXs[e], editYs[e]);
        }

        void undo(Program p, int e) {
            int i = editLines[e];
            trial.replace(i, p.ops[i], p.xs[i], p.ys[i]);
        }

        void listEdits(Program p) {
            edits = 0;
            for (int i = 0; i < p.size; i++) {
                int x = p.xs[i];
                int y = p.ys[i];
                switch (p.ops[i]) {
                    case TURN:
                        addEdit(i, TURN, x, 1 - y);
                        addZones(i, TURN, x, y);
                        break;
                    case SHOW:
                        addZones(i, SHOW, x, y);
                        break;
                    case LATER:
                        if (x != 0 && x % DAY_MINUTES == 0) {
                            addEdit(i, STEP, x / DAY_MINUTES, 0);
                        }
                        break;
                    case STEP:
                        if (Math.abs(x) * DAY_MINUTES <= MOST_X[LATER]) {
                            addEdit(i, LATER, x * DAY_MINUTES, 0);
                        }
                        break;
                    case MONTH:
                        addEndings(i, x, y);
                        break;
                    default:
                        break;
                }
            }
        }

        void addZones(int line, int op, int own, int y) {
            for (int z = 0; z < zones.size; z++) {
                if (z != own) {
                    addEdit(line, op, z, y);
                }
            }
        }

        void addEndings(int line, int x, int own) {
            for (int ending = 0; ending <= MOST_Y[MONTH]; ending++) {
                if (ending != own) {
                    addEdit(line, MONTH, x, ending);
                }
            }
        }

        void addEdit(int line, int op, int x, int y) {
            if (edits < MOST_EDITS) {
                editLines[edits] = line;
                editOps[edits] = op;
                editXs[edits] = x;
                editYs[edits] = y;
                edits++;
            }
        }
    }
}
