import java.lang.reflect.Method;
import java.lang.reflect.Modifier;
import java.util.Arrays;
import java.util.HashMap;
import java.util.Map;
import java.util.function.IntPredicate;
import java.util.function.IntUnaryOperator;
import java.util.function.Supplier;

/**
 * The sentences of the document that name an edge, one by one: the last value within and the first one
 * beyond on each side, nothing there yet, all full, and, behind each refused call, that all other calls
 * answer what they answered ahead of it.
 */
public final class EdgeTests {
    private static final int NONE = -1, FULL = -2, STATE = -3, MIXED = -4, NOT = -6;
    private static final int NO_NUMBER = -2000000000, NO_OFFSET = -9999;
    private static final int LAST = 59999999;
    private static final int DAYS = 36024, END = DAYS * 1440;
    private static final int LOW = Integer.MIN_VALUE, HIGH = Integer.MAX_VALUE;
    private static final int IN = 0, SHOW = 1, DATE = 2, AT = 3, TURN = 4, LATER = 5, STEP = 6, MONTH = 7, LESS = 8,
        ADD = 9, KEEP = 10, SWAP = 11;
    private static final Map<String, Method> METHODS = new HashMap<>();
    private static int wrong = 0;
    private static int looked = 0;

    public static void main(String[] args) {
        for (Method m : OddHours.class.getDeclaredMethods()) {
            if (Modifier.isPublic(m.getModifiers())) {
                METHODS.put(m.getName(), m);
            }
        }
        calendarNumbers();
        zoneNumbers();
        programNumbers();
        rangeNumbers();
        composedNumbers();
        nothingYet();
        allFull();
        calls512();
        firstAnswerNamed();
        refusedOfEachKind();
        monthDays();
        leapYears();
        daysOfAllYears();
        weekdays();
        calendarAsLongAsNoZone();
        endings();
        nothingBeyondTheDays();
        nthOfAMonth();
        toldAndKnown();
        oneDayAndMinute();
        changesThatAreNothing();
        changesOfAllYears();
        changesInOrder();
        fromThatMomentOn();
        walls();
        momentsOfAWall();
        mixOfPile();
        opNumbers();
        turns();
        failsOfMoments();
        failsOfWalls();
        failsOfDays();
        spans();
        laws();
        zonesOfLaws();
        lawsBeyondDays();
        oddChanges();
        oddDays();
        oddRanges();
        oddEachMinute();
        leastOnes();
        mendOfLines();
        mendOrder();
        mendLatest();
        meetingDays();
        System.out.println("edges: " + looked + " answers looked at, " + wrong + " wrong");
        if (wrong != 0) {
            System.exit(1);
        }
    }

    private static void due(String what, int got, int want) {
        looked++;
        if (got != want) {
            wrong++;
            System.out.println(what + " answered " + got + ", due is " + want);
        }
    }

    private static int call(OddHours x, String name, int... args) {
        Object[] boxed = new Object[args.length];
        for (int i = 0; i < args.length; i++) {
            boxed[i] = args[i];
        }
        try {
            return (Integer) METHODS.get(name).invoke(x, boxed);
        } catch (ReflectiveOperationException e) {
            throw new IllegalStateException(name + Arrays.toString(args), e);
        }
    }

    private static int noAnswer(String name) {
        return name.equals("offset") ? NO_OFFSET : name.equals("run") || name.equals("mended") ? NO_NUMBER : NONE;
    }

    // ---- objects in several states

    private enum State {
        NEW, TOLD, BUSY, FILLED;

        OddHours make() {
            OddHours x = new OddHours();
            if (this == TOLD) {
                tellCalendar(x);
                lines(x, 0, IN, 0, 0, KEEP, 0, 0, LATER, 7, 0, LESS, 0, 0);
                x.mend(0, 3, 7, 100, 10);
                x.today(12);
                x.known(34);
            } else if (this == BUSY) {
                tellCalendar(x);
                fillBusy(x);
            } else if (this == FILLED) {
                fillAll(x);
            }
            return x;
        }
    }

    private static final Map<State, int[]> ANSWERS = new HashMap<>();

    private static void tellCalendar(OddHours x) {
        x.month(0, 31);
        x.month(1, 28);
        x.month(11, 40);
        x.leap(3, 50, 0);
        x.week(9, 4);
    }

    private static void fillBusy(OddHours x) {
        x.zone(60);
        x.zone(-300);
        x.zone(720);
        x.rule(0, 99, 2004, 120, 120);
        x.rule(0, 99, 9004, 180, 60);
        x.today(500);
        x.rule(0, 1020, 5000, 0, -300);
        x.rule(1, 5, 3010, 1439, 720);
        x.known(499);
        lines(x, 0, IN, 0, 0);
        lines(x, 1, IN, 0, 0, SHOW, 0, 0, DATE, 0, 0, AT, 540, 0, TURN, 1, 0);
        lines(x, 2, IN, 0, 0, DATE, 0, 0);
        lines(x, 3, IN, 0, 0, KEEP, 0, 0, LATER, 60, 0, LESS, 0, 0);
        lines(x, 4, IN, 0, 0, IN, 0, 0);
        x.mend(1, 1, 540, 0, 50000);
    }

    private static void fillAll(OddHours x) {
        for (int z = 0; z < 5; z++) {
            x.zone(100 * z - 200);
            for (int r = 0; r < 8; r++) {
                x.rule(z, 99, 1000 * r + 10 * z + 4, 150 * r, 50 * r - 100 * z);
            }
        }
        for (int p = 0; p < 6; p++) {
            x.line(p, IN, 0, 0);
            for (int i = 1; i < 10; i++) {
                x.line(p, LATER, p * i, 0);
            }
        }
        x.mend(5, 4, 0, 1000, 10);
        x.today(99999);
    }

    private static void lines(OddHours x, int program, int... numbers) {
        x.clear(program);
        for (int i = 0; i + 2 < numbers.length; i += 3) {
            due("line " + i / 3, x.line(program, numbers[i], numbers[i + 1], numbers[i + 2]), i / 3);
        }
    }

    /** What an object answers to calls of all sorts; those that tell something come last. */
    private static int[] answers(OddHours x) {
        int[] a = new int[400];
        int n = 0;
        for (int what = 0; what < 4; what++) {
            a[n++] = x.count(what);
        }
        for (int m = 0; m < 12; m++) {
            a[n++] = x.day(3, 100 * m);
            a[n++] = x.day(4, 100 * m);
        }
        for (int d = 0; d < 11; d++) {
            a[n++] = x.date(d, 3);
        }
        for (int z = 0; z < 5; z++) {
            a[n++] = x.changes(z);
            for (int i : new int[] {0, 1, 7, 8, 100}) {
                a[n++] = x.change(z, i);
            }
            for (int m : new int[] {0, 50000, 126780, 6000000}) {
                a[n++] = x.offset(z, m);
            }
        }
        a[n++] = x.odds(0, 200000);
        a[n++] = x.odd(0, 200000, 200);
        for (int p = 0; p < 6; p++) {
            a[n++] = x.mix(p);
            a[n++] = x.kind(p);
            a[n++] = x.run(p, 0);
            a[n++] = x.run(p, 130000);
        }
        for (int i = 0; i < 11; i++) {
            for (int what = 0; what < 3; what++) {
                a[n++] = x.mended(i, what);
            }
        }
        return answersOfTellers(x, a, n);
    }

    private static int[] answersOfTellers(OddHours x, int[] a, int from) {
        int n = from;
        a[n++] = x.known(99999);
        for (int z = 0; z < 5; z++) {
            a[n++] = x.changes(z);
            a[n++] = x.rule(z, 0, 0, 0, 0);
        }
        for (int p = 0; p < 6; p++) {
            a[n++] = x.mend(p, 4, 0, 5000, 0);
            a[n++] = x.mended(1, 1);
            a[n++] = x.clear(p);
        }
        for (int m = 0; m < 12; m++) {
            a[n++] = x.month(m, 30);
        }
        a[n++] = x.today(99999);
        a[n++] = x.zone(0);
        return Arrays.copyOf(a, n);
    }

    private static void refused(State state, int want, String name, int... args) {
        OddHours x = state.make();
        due(name + Arrays.toString(args) + " in state " + state, call(x, name, args), want);
        isAsMade(state, x, name + Arrays.toString(args));
    }

    private static void isAsMade(State state, OddHours x, String what) {
        int[] plain = ANSWERS.computeIfAbsent(state, s -> answers(s.make()));
        int differs = Arrays.mismatch(plain, answers(x));
        due("the first of all answers, in state " + state + ", that is another one behind " + what, differs, -1);
    }

    private static void taken(State state, String name, int... args) {
        int got = call(state.make(), name, args);
        due(name + Arrays.toString(args) + " in state " + state + " is refused", got == noAnswer(name) ? 1 : 0, 0);
    }

    /** A number of a call from least to most, the others as given. */
    private static void range(State state, int which, int least, int most, String name, int... args) {
        for (int good : new int[] {least, most}) {
            int[] with = args.clone();
            with[which] = good;
            taken(state, name, with);
        }
        for (int bad : new int[] {least - 1, most + 1, LOW, HIGH}) {
            int[] with = args.clone();
            with[which] = bad;
            refused(state, noAnswer(name), name, with);
        }
    }

    // ---- the bounds of every number

    private static void calendarNumbers() {
        for (State s : new State[] {State.NEW, State.TOLD}) {
            int days = s.make().count(3);
            range(s, 0, 0, 11, "month", 0, 33);
            range(s, 1, 1, 40, "month", 5, 0);
            range(s, 0, 2, 50, "leap", 0, 90, 3);
            range(s, 1, 2, 100, "leap", 5, 0, 3);
            range(s, 2, 0, 11, "leap", 5, 90, 0);
            range(s, 0, 2, 10, "week", 0, 3);
            range(s, 1, 0, 9, "week", 5, 0);
            range(s, 0, 0, days - 1, "months", 0, 0, 0);
            range(s, 1, -9999, 9999, "months", 500, 0, 0);
            range(s, 0, 0, days - 1, "date", 0, 0);
        }
        for (State s : State.values()) {
            range(s, 0, 0, 99, "day", 0, 1100);
            range(s, 1, 0, 3, "date", 40, 0);
            range(s, 2, 0, 2, "months", 40, 1, 0);
            range(s, 2, 0, 4, "nth", 0, 0, 0);
            range(s, 0, 0, 3, "count", 0);
        }
        range(State.NEW, 1, 0, 6, "nth", 0, 0, 0);
        range(State.TOLD, 1, 0, 8, "nth", 0, 0, 0);
    }

    private static void zoneNumbers() {
        for (State s : new State[] {State.NEW, State.TOLD, State.BUSY}) {
            range(s, 0, -720, 720, "zone", 0);
        }
        range(State.NEW, 0, 0, 99999, "today", 0);
        range(State.TOLD, 0, 12, 99999, "today", 0);
        range(State.BUSY, 0, 500, 99999, "today", 0);
        range(State.FILLED, 0, 99999, 99999, "today", 0);
        for (State s : State.values()) {
            range(s, 0, 0, 99999, "known", 0);
        }
        int end = State.BUSY.make().count(3) * 1440;
        range(State.BUSY, 0, 0, 2, "rule", 0, 99, 0, 0, 0);
        range(State.BUSY, 3, 0, 1439, "rule", 2, 99, 0, 0, 0);
        range(State.BUSY, 4, -720, 720, "rule", 2, 99, 0, 0, 0);
        range(State.BUSY, 0, 0, 2, "changes", 0);
        range(State.BUSY, 1, 0, 199, "change", 0, 0);
        range(State.BUSY, 0, 0, 2, "offset", 0, 0);
        range(State.BUSY, 1, 0, LAST, "offset", 0, 0);
        range(State.BUSY, 0, 0, 2, "wall", 0, 1000);
        range(State.BUSY, 1, 0, LAST, "wall", 0, 0);
        range(State.BUSY, 0, 0, 2, "moments", 0, 0);
        range(State.BUSY, 1, 0, end - 1, "moments", 0, 0);
        range(State.BUSY, 0, 0, 2, "moment", 0, 0, 0);
        range(State.BUSY, 1, 0, end - 1, "moment", 0, 0, 0);
        for (String name : new String[] {"changes", "offset", "wall", "moments"}) {
            int[] args = new int[METHODS.get(name).getParameterCount()];
            range(State.FILLED, 0, 0, 4, name, args);
        }
    }

    private static void programNumbers() {
        for (State s : State.values()) {
            range(s, 0, 0, 5, "clear", 0);
            range(s, 0, 0, 5, "mix", 0);
            range(s, 0, 0, 5, "kind", 0);
            range(s, 0, 0, 5, "keeps", 0, 4, 0, 100);
            range(s, 0, 0, 5, "least", 0, 4, 0, 100, 10);
            range(s, 0, 0, 5, "mend", 0, 4, 0, 100, 10);
        }
        range(State.NEW, 0, 0, 5, "line", 0, IN, 0, 0);
        range(State.BUSY, 0, 0, 5, "line", 0, IN, 0, 0);
        range(State.BUSY, 1, 0, 11, "line", 0, 0, 0, 0);
        range(State.BUSY, 1, 0, LAST, "run", 0, 0);
        range(State.FILLED, 0, 0, 5, "run", 0, 100);
        range(State.BUSY, 3, 0, LAST, "keeps", 0, 4, 0, 0);
        range(State.BUSY, 2, 0, 1439, "keeps", 0, 11, 0, 7);
        range(State.BUSY, 2, 0, 1439, "least", 0, 11, 0, 7, 5);
        range(State.BUSY, 2, 0, 1439, "mend", 0, 11, 0, 7, 5);
        for (String name : new String[] {"keeps", "least", "mend"}) {
            int[] args = new int[METHODS.get(name).getParameterCount()];
            args[3] = 7;
            for (int law : new int[] {2, 12, 4}) {
                args[1] = law;
                range(State.BUSY, 2, 0, 0, name, args);
            }
        }
        range(State.TOLD, 0, 0, 3, "mended", 0, 0);
        range(State.BUSY, 0, 0, 4, "mended", 0, 0);
        range(State.FILLED, 0, 0, 9, "mended", 0, 0);
        range(State.BUSY, 1, 0, 2, "mended", 4, 0);
    }

    private static void rangeNumbers() {
        for (State s : State.values()) {
            range(s, 0, 0, 3000, "odds", 0, 3000);
            range(s, 1, 1000, 2001000, "odds", 1000, 0);
            range(s, 0, LAST - 2000000, LAST, "odds", 0, LAST);
            range(s, 1, LAST - 5, LAST, "odds", LAST - 5, 0);
            range(s, 0, 0, 3000, "odd", 0, 3000, 0);
            range(s, 1, 1000, 2001000, "odd", 1000, 0, 0);
            range(s, 0, LAST - 2000000, LAST, "odd", 0, LAST, 0);
            range(s, 1, LAST - 5, LAST, "odd", LAST - 5, 0, 0);
        }
        range(State.NEW, 2, 0, 1, "odd", 1000, 3000, 0);
        range(State.NEW, 2, 0, 0, "odd", 1000, 1000, 0);
        int[] most = {2000000, 100000};
        String[] names = {"least", "mend"};
        for (int i = 0; i < 2; i++) {
            range(State.BUSY, 4, 0, most[i], names[i], 0, 4, 0, 100, 0);
            range(State.BUSY, 4, 0, 99, names[i], 0, 4, 0, LAST - 99, 0);
            range(State.BUSY, 3, 0, LAST, names[i], 0, 4, 0, 0, 0);
            range(State.BUSY, 3, 0, LAST - 100, names[i], 0, 4, 0, 0, 100);
            refused(State.BUSY, NONE, names[i], 0, 4, 0, HIGH, HIGH);
            refused(State.BUSY, NONE, names[i], 0, 4, 0, LOW, LOW);
            refused(State.BUSY, NONE, names[i], 0, 4, 0, LAST, HIGH);
        }
        int days = State.BUSY.make().count(3);
        range(State.BUSY, 0, 0, 2, "meetings", 0, 0, 0, 0, 0);
        range(State.BUSY, 4, 0, 2, "meetings", 0, 0, 0, 0, 0);
        range(State.BUSY, 2, 0, 3000, "meetings", 0, 0, 0, 3000, 0);
        range(State.BUSY, 2, 5000, 9000, "meetings", 0, 0, 0, 9000, 0);
        range(State.BUSY, 3, 5000, 9000, "meetings", 0, 0, 5000, 0, 0);
        range(State.BUSY, 3, days - 9, days - 1, "meetings", 0, 0, days - 9, 0, 0);
        refused(State.BUSY, NONE, "meetings", 0, 0, LOW, HIGH, 0);
        refused(State.BUSY, NONE, "meetings", 0, 0, HIGH, LOW, 0);
        refused(State.BUSY, NONE, "meetings", 0, 0, -1, -1, 0);
        refused(State.BUSY, NONE, "meetings", 0, 0, days, days, 0);
        for (String name : new String[] {"odds", "odd"}) {
            int[] args = new int[METHODS.get(name).getParameterCount()];
            int[][] both = {{LOW, HIGH}, {HIGH, LOW}, {-1, -1}, {LAST + 1, LAST + 1}, {HIGH, HIGH}, {LOW, LOW}};
            for (int[] ab : both) {
                args[0] = ab[0];
                args[1] = ab[1];
                refused(State.BUSY, NONE, name, args);
            }
        }
    }

    /** Each number of a range and whether it is good; a new object ahead of the 512th call. */
    private static void each(String what, int from, int to, State state, IntPredicate isGood, Answers ask) {
        for (int start = from; start <= to; start += 200) {
            OddHours x = state.make();
            for (int n = start; n <= to && n < start + 200; n++) {
                due(what + " " + n + " is good", ask.of(x, n) == NONE ? 0 : 1, isGood.test(n) ? 1 : 0);
            }
            isAsMade(state, x, what + " from " + start + " on");
        }
    }

    private interface Answers {
        int of(OddHours x, int n);
    }

    /** Numbers that are put together of several: of a full zone a rule that is as said is FULL, not NONE. */
    private static void composedNumbers() {
        State s = State.FILLED;
        each("rule years", -210, 10110, s, n -> n >= 0 && n / 100 <= 99 && n / 100 <= n % 100,
            (x, n) -> x.rule(4, n, 0, 0, 0));
        each("rule on", -2010, 13010, s, n -> n >= 0 && n < 12000 && n % 1000 < 70 && n % 10 < 5,
            (x, n) -> x.rule(4, 99, n, 0, 0));
        each("nth months", -210, 10110, s, n -> n >= 0 && n < 10000 && n % 100 < 12,
            (x, n) -> x.nth(n, 0, 0));
        each("meetings at", -30, 14430, s, n -> n >= 0 && n < 14400 && n % 10 < 7,
            (x, n) -> x.meetings(1, n, 10, 20, 2));
        each("date of a leap year", -130, 1330, s, n -> n >= 0 && n < 1200 && n % 100 < (n / 100 == 1 ? 31 : 30),
            (x, n) -> x.day(96, n));
        each("date of another year", -130, 1330, s, n -> n >= 0 && n < 1200 && n % 100 < 30,
            (x, n) -> x.day(97, n));
        IntPredicate isLaw = n -> n >= 0 && n < 50 && (n < 5 || n % 10 == 1 || n % 10 == 2);
        each("keeps law", -60, 120, s, isLaw, (x, n) -> x.keeps(0, n, 0, 7));
        each("least law", -60, 120, s, isLaw, (x, n) -> x.least(0, n, 0, 7, 0));
        OddHours full = s.make();
        for (int law = -60; law <= 120; law++) {
            int got = full.mend(0, law, 0, 7, 0);
            due("mend law " + law + " is good", got == NONE ? 0 : 1, isLaw.test(law) ? 1 : 0);
        }
        int[] many = {LOW, LOW + 1, -1000000000, 1000000000, HIGH - 1, HIGH, 65536, -65536, 1 << 30};
        for (int n : many) {
            refused(s, NONE, "rule", 0, n, 0, 0, 0);
            refused(s, NONE, "rule", 0, 99, n, 0, 0);
            refused(s, NONE, "nth", n, 0, 0);
            refused(s, NONE, "meetings", 0, n, 0, 0, 0);
            refused(s, NONE, "day", 0, n);
            refused(s, NONE, "keeps", 0, n, 0, 0);
            refused(s, NONE, "least", 0, n, 0, 0, 0);
            refused(s, NONE, "mend", 0, n, 0, 0, 0);
        }
    }

    // ---- nothing there yet, all full, and what is refused

    private static void nothingYet() {
        State s = State.NEW;
        for (int z = -1; z < 6; z++) {
            refused(s, NONE, "rule", z, 99, 0, 0, 0);
            refused(s, NONE, "changes", z);
            refused(s, NONE, "change", z, 0);
            refused(s, NO_OFFSET, "offset", z, 0);
            refused(s, NONE, "wall", z, 0);
            refused(s, NONE, "moments", z, 0);
            refused(s, NONE, "moment", z, 0, 0);
            refused(s, NONE, "line", 0, SHOW, z, 0);
            refused(s, NONE, "line", 0, TURN, z, 0);
            refused(s, NONE, "meetings", z, 0, 0, 0, 0);
            refused(s, NONE, "keeps", 0, 10 * z + 1, 0, 0);
            refused(s, NONE, "keeps", 0, 10 * z + 2, 0, 0);
            refused(s, NONE, "least", 0, 10 * z + 1, 0, 0, 0);
            refused(s, NONE, "mend", 0, 10 * z + 2, 0, 0, 0);
        }
        for (int p = 0; p < 6; p++) {
            refused(s, 0, "clear", p);
            refused(s, 0, "mix", p);
            refused(s, MIXED, "kind", p);
            refused(s, NO_NUMBER, "run", p, 0);
            refused(s, MIXED, "keeps", p, 4, 0, 0);
            refused(s, MIXED, "least", p, 4, 0, 0, 0);
            refused(s, NOT, "mend", p, 4, 0, 0, 0);
        }
        for (int i = -1; i < 11; i++) {
            refused(s, NO_NUMBER, "mended", i, 0);
        }
        refused(s, 2, "odds", 0, 2000000);
        refused(s, 0, "odd", 0, 2000000, 0);
        refused(s, 2000000, "odd", 0, 2000000, 1);
        refused(s, 0, "count", 0);
        refused(s, 0, "count", 1);
        refused(s, 0, "count", 2);
        refused(s, DAYS, "count", 3);
        OddHours x = new OddHours();
        x.zone(17);
        due("13 a zone without rules", x.changes(0), 0);
        due("14 a zone without rules", x.change(0, 0), NONE);
        due("15 a zone without rules", x.offset(0, LAST), 17);
        due("1 the day as of which all is known, at first", x.known(5), 99999);
        due("1 today at first", x.today(5), 0);
    }

    private static void allFull() {
        State s = State.FILLED;
        OddHours x = s.make();
        due("9 five zones", x.count(0), 5);
        due("20 sixty lines", x.count(1), 60);
        refused(s, FULL, "zone", 0);
        refused(s, FULL, "zone", 720);
        refused(s, FULL, "zone", -720);
        for (int z = 0; z < 5; z++) {
            refused(s, FULL, "rule", z, 9999, 11000, 1439, 720);
        }
        for (int p = 0; p < 6; p++) {
            for (int op = 0; op < 12; op++) {
                refused(s, FULL, "line", p, op, 0, 0);
            }
        }
        OddHours y = new OddHours();
        for (int z = 0; z < 5; z++) {
            due("9 number", y.zone(z), z);
            due("31 zones", y.count(0), z + 1);
            for (int r = 0; r < 8; r++) {
                due("10 how many", y.rule(z, 99, 0, 10 * r, 0), r + 1);
            }
            due("10 the ninth", y.rule(z, 99, 0, 80, 0), FULL);
        }
        due("9 the sixth", y.zone(0), FULL);
        for (int p = 0; p < 6; p++) {
            for (int i = 0; i < 10; i++) {
                due("20 number", y.line(p, IN, 0, 0), i);
                due("31 lines", y.count(1), 10 * p + i + 1);
            }
            due("20 the eleventh", y.line(p, IN, 0, 0), FULL);
        }
        due("19 ten", y.clear(2), 10);
        due("20 there is room again", y.line(2, IN, 0, 0), 0);
        due("31 lines", y.count(1), 51);
        due("20 no room in another one", y.line(3, IN, 0, 0), FULL);
    }

    /** "An object is used for at most 512 calls after it has been made". */
    private static void calls512() {
        OddHours x = new OddHours();
        due("call 1", x.zone(7), 0);
        for (int i = 2; i <= 509; i++) {
            due("call " + i, x.known(i), i == 2 ? 99999 : i - 1);
        }
        due("call 510", x.line(5, IN, 0, 0), 0);
        due("call 511", x.run(5, LAST), LAST);
        due("call 512", x.mend(5, 1, 0, 1433, 0), 0);
    }

    /** "Answers, the first that a call names". */
    private static void firstAnswerNamed() {
        State s = State.FILLED;
        refused(s, NONE, "month", 12, 30);
        refused(s, NONE, "month", 0, 41);
        refused(s, STATE, "month", 0, 40);
        refused(s, NONE, "leap", 1, 100, 0);
        refused(s, NONE, "leap", 4, 101, 0);
        refused(s, NONE, "leap", 4, 100, 12);
        refused(s, STATE, "leap", 50, 100, 11);
        refused(s, NONE, "week", 11, 0);
        refused(s, NONE, "week", 7, 10);
        refused(s, STATE, "week", 10, 9);
        refused(s, NONE, "zone", 721);
        refused(s, NONE, "zone", -721);
        refused(s, NONE, "rule", 5, 99, 0, 0, 0);
        refused(s, NONE, "rule", 0, 100, 0, 0, 0);
        refused(s, NONE, "rule", 0, 99, 70, 0, 0);
        refused(s, NONE, "rule", 0, 99, 0, 1440, 0);
        refused(s, NONE, "rule", 0, 99, 0, 0, 721);
        refused(s, NONE, "line", 6, IN, 0, 0);
        refused(s, NONE, "line", 0, 12, 0, 0);
        refused(s, NONE, "line", 0, IN, 1, 0);
        refused(s, NONE, "line", 0, SHOW, 5, 0);
        State b = State.BUSY;
        for (int p : new int[] {2, 4, 5}) {
            refused(b, MIXED, "keeps", p, 0, 0, LAST);
            refused(b, NONE, "keeps", p, 0, 0, LAST + 1);
            refused(b, NONE, "keeps", p, 5, 0, 0);
            refused(b, NONE, "keeps", p, 4, 1, 0);
            refused(b, MIXED, "least", p, 0, 0, LAST, 0);
            refused(b, NONE, "least", p, 0, 0, LAST, 1);
            refused(b, NONE, "least", p, 10, 0, 0, 0);
            refused(b, NONE, "mend", p, 0, 0, LAST, 1);
        }
        refused(State.TOLD, NONE, "months", -1, 9999, 0);
        refused(State.TOLD, NOT, "months", 0, 9999, 0);
        refused(b, NONE, "moment", 3, 0, 99);
        refused(b, NOT, "moment", 0, 100, 99);
    }

    /** "What is refused changes nothing", and what only asks changes nothing either. */
    private static void refusedOfEachKind() {
        for (State s : State.values()) {
            OddHours x = s.make();
            x.day(50, 500);
            x.date(500, 2);
            x.months(500, 5, 1);
            x.nth(505, 1, 2);
            x.changes(1);
            x.change(1, 3);
            x.offset(1, 12345);
            x.wall(1, 12345);
            x.moments(1, 12345);
            x.moment(1, 12345, 0);
            x.mix(1);
            x.kind(1);
            x.run(1, 12345);
            x.keeps(1, 4, 0, 12345);
            x.odds(7, 2000007);
            x.odd(5, 1000005, 3);
            x.least(1, 0, 100, 0, 2000000);
            x.mended(1, 1);
            x.meetings(1, 100, 0, 4000, 1);
            x.count(1);
            isAsMade(s, x, "calls that ask");
        }
        for (State s : new State[] {State.TOLD, State.BUSY, State.FILLED}) {
            OddHours x = s.make();
            int had = x.count(1);
            x.mend(1, 4, 0, 1000, 1000);
            x.mend(1, 0, HIGH, 1000, 1000);
            due("28 nothing is changed by this", x.count(1), had);
            for (int p = 0; p < 6; p++) {
                due("28 what it runs", x.run(p, 130000), s.make().run(p, 130000));
                due("28 how many lines", x.clear(p), s.make().clear(p));
            }
        }
        State b = State.BUSY;
        refused(b, 500, "today", 500);
        refused(b, 499, "known", 499);
    }

    // ---- years, months, weeks

    private static void monthDays() {
        OddHours x = new OddHours();
        due("2 30 at first", x.day(0, 1129), 359);
        due("2 30 at first", x.day(0, 1130), NONE);
        due("2 longest", x.month(11, 40), 30);
        due("5 its last", x.day(0, 1139), 369);
        due("5 behind that", x.day(0, 1140), NONE);
        due("5 the next year", x.day(1, 0), 370);
        due("2 shortest", x.month(0, 1), 30);
        due("5 its only one", x.day(0, 0), 0);
        due("5 behind that", x.day(0, 1), NONE);
        due("5 the next month", x.day(0, 100), 1);
        due("2 a leap month of 40", x.month(1, 40), 30);
        due("5 its 41st", x.day(4, 140), 4 * 351 + 1 + 40);
        due("5 behind that", x.day(4, 141), NONE);
        due("5 not in another year", x.day(5, 140), NONE);
        due("6 its 41st", x.date(4 * 351 + 41, 2), 40);
        due("6 the next month", x.date(4 * 351 + 42, 1), 2);
        due("2 a leap month of 1", x.month(1, 1), 40);
        due("5 its second", x.day(4, 101), 4 * 312 + 2);
        due("5 behind that", x.day(4, 102), NONE);
    }

    private static int leapDays(OddHours x) {
        return x.count(3) - 36000;
    }

    private static boolean isLeap(OddHours x, int year) {
        int next = year == 99 ? x.count(3) : x.day(year + 1, 0);
        return next - x.day(year, 0) == 361;
    }

    private static void leapYears() {
        OddHours x = new OddHours();
        due("3 at first 4, 8 .. 96", leapDays(x), 24);
        due("3 multiples of 2 alone", x.leap(2, 100, 1), 1);
        due("3 2, 4 .. 98", leapDays(x), 49);
        due("3 year 0 is a multiple of all", isLeap(x, 0) ? 1 : 0, 0);
        due("3 year 98", isLeap(x, 98) ? 1 : 0, 1);
        due("3 year 99", isLeap(x, 99) ? 1 : 0, 0);
        due("3 not of 2", x.leap(2, 2, 1), 1);
        due("3 none", leapDays(x), 0);
        due("3 multiples of 3, not of 2", x.leap(3, 2, 1), 1);
        due("3 3, 9 .. 99", leapDays(x), 17);
        due("3 the last year", isLeap(x, 99) ? 1 : 0, 1);
        due("3 multiples of 50", x.leap(50, 100, 1), 1);
        due("3 year 50 alone", leapDays(x), 1);
        due("3 year 50", isLeap(x, 50) ? 1 : 0, 1);
        due("3 not of 50", x.leap(50, 50, 1), 1);
        due("3 none", leapDays(x), 0);
        due("3 not of 99", x.leap(3, 99, 11), 1);
        due("3 3, 6 .. 96", leapDays(x), 32);
        due("3 year 99", isLeap(x, 99) ? 1 : 0, 0);
        due("3 all of 3", x.leap(3, 100, 11), 1);
        due("3 year 99", isLeap(x, 99) ? 1 : 0, 1);
        due("3 the leap day is the last of all", x.day(99, 1130), x.count(3) - 1);
        due("3 in month 0", x.leap(3, 100, 0), 1);
        due("3 its last", x.day(99, 30), x.day(99, 100) - 1);
        due("3 no more in month 11", x.day(99, 1130), NONE);
        due("3 told month, in a year that is not leap", x.day(98, 30), NONE);
    }

    private static void daysOfAllYears() {
        OddHours x = new OddHours();
        due("5 the first", x.day(0, 0), 0);
        due("5 the last", x.day(99, 1129), DAYS - 1);
        for (int what = 0; what < 4; what++) {
            int[] first = {0, 0, 0, 0};
            int[] last = {99, 11, 29, (DAYS - 1) % 7};
            due("6 the first day", x.date(0, what), first[what]);
            due("6 the last day", x.date(DAYS - 1, what), last[what]);
            due("6 ahead of the first", x.date(-1, what), NONE);
            due("6 behind the last", x.date(DAYS, what), NONE);
        }
        for (int m = 0; m < 12; m++) {
            x.month(m, 1);
        }
        x.leap(2, 2, 0);
        due("31 fewest days", x.count(3), 1200);
        due("6 the last of the fewest", x.date(1199, 0), 99);
        due("6 behind that", x.date(1200, 0), NONE);
        for (int m = 0; m < 12; m++) {
            x.month(m, 40);
        }
        x.leap(2, 100, 5);
        due("31 most days", x.count(3), 48049);
        due("6 the last of the most", x.date(48048, 2), 39);
        due("6 behind that", x.date(48049, 2), NONE);
        due("5 the last of the most", x.day(99, 1139), 48048);
    }

    private static void weekdays() {
        for (int w = 2; w <= 10; w++) {
            for (int f = 0; f <= 9; f++) {
                OddHours x = new OddHours();
                due("4", x.week(w, f), 1);
                for (int d : new int[] {0, 1, w - 1, w, DAYS - 1}) {
                    due("4 week of " + w + " from " + f + ", day " + d, x.date(d, 3), (d + f) % w);
                }
                due("8 the last weekday", x.nth(1, w - 1, 0) == NONE ? 1 : 0, 0);
                due("8 no such weekday", x.nth(1, w, 0), NONE);
                x.zone(0);
                due("10 no such weekday", x.rule(0, 99, 10 * w, 0, 0), NONE);
                due("10 the last weekday", x.rule(0, 99, 10 * (w - 1), 0, 0), 1);
                due("30 the last weekday", x.meetings(0, w - 1, 0, w - 1, 2), 1);
                due("30 no such weekday", w == 10 ? NONE : x.meetings(0, w, 0, w - 1, 2), NONE);
            }
        }
    }

    private static void calendarAsLongAsNoZone() {
        OddHours x = new OddHours();
        due("9 refused", x.zone(721), NONE);
        due("2 behind a zone that was refused", x.month(0, 31), 30);
        due("3 behind a zone that was refused", x.leap(5, 100, 0), 1);
        due("4 behind a zone that was refused", x.week(5, 0), 1);
        x.line(0, IN, 0, 0);
        x.today(7);
        x.known(7);
        due("2 behind all but a zone", x.month(0, 30), 31);
        due("9", x.zone(-720), 0);
        due("2 a zone", x.month(0, 30), STATE);
        due("3 a zone", x.leap(5, 100, 0), STATE);
        due("4 a zone", x.week(5, 0), STATE);
    }

    private static void endings() {
        OddHours x = new OddHours();
        x.month(1, 28);
        x.month(2, 29);
        int[][] want = {{27, 57, 57, 57}, {28, 57, 58, NOT}, {29, 57, 59, NOT}, {0, 30, 30, 30}};
        for (int[] w : want) {
            for (int ending = 0; ending < 3; ending++) {
                due("7 ending " + ending + " of day " + w[0], x.months(w[0], 1, ending), w[1 + ending]);
            }
        }
        int leap = x.day(4, 0);
        due("7 one more in a leap year", x.months(leap + 28, 1, 2), leap + 58);
        due("7 and no more", x.months(leap + 29, 1, 2), NOT);
        due("7 and no more", x.months(leap + 29, 1, 0), leap + 58);
        due("7 and one over", x.months(leap + 29, 1, 1), leap + 59);
        due("7 from the leap day to none", x.months(leap + 58, 12, 2), NOT);
        due("7 from the leap day to its last", x.months(leap + 58, 12, 0), x.day(5, 127));
        due("7 from the leap day over", x.months(leap + 58, 12, 1), x.day(5, 200));
        due("7 from the leap day to the next one", x.months(leap + 58, 48, 2), x.day(8, 128));
        due("7 from the leap day back to none", x.months(leap + 58, -48, 2), NOT);
        due("7 over the year's end", x.months(x.day(0, 1129), 1, 2), x.day(1, 29));
        due("7 back over the year's end", x.months(x.day(1, 29), -1, 2), x.day(0, 1129));
        due("7 no months at all", x.months(leap + 58, 0, 2), leap + 58);
        OddHours y = new OddHours();
        y.month(0, 40);
        for (int m = 1; m < 12; m++) {
            y.month(m, 1);
        }
        due("7 over more than the next month", y.months(39, 1, 1), 40 + 39);
        due("7 over into the next year", y.months(39, 11, 1), y.day(0, 1100) + 39);
    }

    private static void nothingBeyondTheDays() {
        OddHours x = new OddHours();
        due("7 to the first month", x.months(31, -1, 2), 1);
        due("7 ahead of it", x.months(29, -1, 0), NOT);
        due("7 back all the way", x.months(DAYS - 1, -1199, 2), 29);
        due("7 back a month more", x.months(DAYS - 1, -1200, 0), NOT);
        due("7 on all the way", x.months(29, 1199, 2), DAYS - 1);
        due("7 on a month more", x.months(29, 1200, 0), NOT);
        for (int ending = 0; ending < 3; ending++) {
            due("7 as far as can be told", x.months(500, 9999, ending), NOT);
            due("7 as far back as can be told", x.months(500, -9999, ending), NOT);
            due("7 farther", x.months(500, 10000, ending), NONE);
            due("7 farther back", x.months(500, -10000, ending), NONE);
        }
        x.month(11, 28);
        int day = x.day(99, 1027);
        int last = x.count(3) - 1;
        for (int ending = 0; ending < 3; ending++) {
            due("7 the last day itself", x.months(day, 1, ending), last);
        }
        due("7 behind the last: its last", x.months(day + 1, 1, 0), last);
        due("7 behind the last: nothing over", x.months(day + 1, 1, 1), NOT);
        due("7 behind the last: none", x.months(day + 1, 1, 2), NOT);
        due("7 a year earlier there is one over", x.months(x.day(98, 1028), 1, 1), x.day(99, 0));
    }

    private static void nthOfAMonth() {
        for (int length = 1; length <= 40; length++) {
            OddHours x = new OddHours();
            x.month(1, length);
            for (int weekday = 0; weekday < 7; weekday++) {
                int first = 30 + (weekday + 5) % 7;
                int end = 30 + length;
                int last = NOT;
                for (int n = 0; n < 6; n++) {
                    last = first + 7 * n < end ? first + 7 * n : last;
                }
                for (int n = 0; n < 4; n++) {
                    due("8 the n-th", x.nth(1, weekday, n), first + 7 * n < end ? first + 7 * n : NOT);
                }
                due("8 the last", x.nth(1, weekday, 4), last);
            }
        }
        OddHours y = new OddHours();
        y.month(1, 28);
        y.zone(0);
        int leapWeekday = y.date(y.day(4, 128), 3);
        due("8 the leap day is the last one", y.nth(401, leapWeekday, 4), y.day(4, 128));
        due("8 there is a fifth in no call", y.nth(401, leapWeekday, 5), NONE);
        due("10 a month without such a weekday", y.rule(0, 99, 1003, 0, 60), 1);
        due("10 28 days have four of each", y.changes(0), 100);
        OddHours z = new OddHours();
        z.month(1, 27);
        z.zone(0);
        z.rule(0, 99, 1003, 0, 60);
        int met = 0;
        for (int year = 0; year < 100; year++) {
            met += z.nth(100 * year + 1, 0, 3) == NOT ? 0 : 1;
        }
        due("10 a month without such a weekday has no change", z.changes(0), met);
        due("10 27 days have not always four", met < 100 && met > 50 ? 1 : 0, 1);
    }

    // ---- zones

    private static void toldAndKnown() {
        OddHours x = new OddHours();
        x.zone(0);
        int[] days = {0, 1, 50000, 99998, 99999};
        for (int i = 0; i < days.length; i++) {
            x.today(days[i]);
            due("10 told on " + days[i], x.rule(0, 0, 1000 * i, 0, 10 * i + 10), i + 1);
        }
        due("12 at first all count, that of 99999 too", x.changes(0), 5);
        int[][] want = {{0, 1}, {1, 2}, {2, 2}, {49999, 2}, {50000, 3}, {99997, 3}, {99998, 4}, {99999, 5}};
        for (int[] w : want) {
            x.known(w[0]);
            due("12 known on " + w[0], x.changes(0), w[1]);
            due("12 known on " + w[0], x.offset(0, LAST), 10 * w[1]);
            due("12 known on " + w[0], x.change(0, w[1]), NONE);
        }
        for (int[] bad : new int[][] {{-1}, {100000}}) {
            due("12 refused", x.known(bad[0]), NONE);
            due("12 as it was", x.changes(0), 5);
        }
        due("11 ahead of it", x.today(99998), NONE);
        due("11 the same", x.today(99999), 99999);
        x.known(0);
        due("10 told now, known later", x.rule(0, 0, 6000, 0, 600), 6);
        due("10 told now, known later", x.changes(0), 1);
        due("9 a zone is known at once", x.zone(5), 1);
        due("9 a zone is known at once", x.offset(1, 0), 5);
    }

    private static void oneDayAndMinute() {
        OddHours x = new OddHours();
        x.zone(0);
        x.rule(0, 0, 1, 120, 60);
        x.today(1);
        x.rule(0, 0, 1, 120, 30);
        due("10 that of the one told last alone", x.changes(0), 1);
        due("10 that of the one told last alone", x.offset(0, 10200), 30);
        x.known(0);
        due("12 of those that are known", x.offset(0, 10200), 60);
        x.known(1);
        x.rule(0, 0, 1, 121, 90);
        due("10 another minute is another one", x.changes(0), 1);
        due("10 its moment is not behind", x.offset(0, 10201), 30);
        x.rule(0, 0, 1, 151, 90);
        due("10 a minute behind", x.changes(0), 2);
        due("10 a minute behind", x.change(0, 1), 10201);
        x.rule(0, 0, 11, 120, 5);
        due("10 the same minute of another day", x.changes(0), 3);
        due("10 the same minute of another day", x.change(0, 2), 8 * 1440 + 120 - 90);
        // On day 7 the first of its weekday but one is also the last but three of 30 days.
        OddHours y = new OddHours();
        y.month(0, 14);
        y.zone(0);
        y.rule(0, 0, 4, 0, 10);
        y.rule(0, 0, 1, 0, 20);
        due("10 the last and the second may be one day", y.changes(0), 1);
        due("10 the last and the second may be one day", y.offset(0, LAST), 20);
        y.rule(0, 0, 4, 0, 30);
        due("10 the one told last", y.offset(0, LAST), 30);
    }

    private static void changesThatAreNothing() {
        int wall = 7 * 1440 + 600;
        for (int late = -1; late <= 1; late++) {
            OddHours x = new OddHours();
            x.zone(0);
            x.rule(0, 0, 1, 600, 100);
            x.rule(0, 0, 1, 700 + late, -50);
            due("10 behind the one ahead by " + late, x.changes(0), late > 0 ? 2 : 1);
            due("10 offset then", x.offset(0, LAST), late > 0 ? -50 : 100);
            due("14 moment of the second", x.change(0, 1), late > 0 ? wall + 1 : NONE);
            x.rule(0, 0, 2, 0, 0);
            int third = 14 * 1440 - (late > 0 ? -50 : 100);
            due("10 one that is nothing leaves the offset", x.change(0, x.changes(0) - 1), third);
        }
        for (int t = 718; t <= 721; t++) {
            OddHours x = new OddHours();
            x.zone(720);
            x.rule(0, 0, 0, t, 100);
            due("10 at " + (t - 720), x.changes(0), t < 720 ? 0 : 1);
            due("14 at " + (t - 720), x.change(0, 0), t < 720 ? NONE : t - 720);
            due("15 at " + (t - 720), x.offset(0, LAST), t < 720 ? 720 : 100);
            due("15 at 0", x.offset(0, 0), t == 720 ? 100 : 720);
        }
        OddHours y = new OddHours();
        y.zone(-720);
        y.rule(0, 0, 0, 0, -720);
        due("14 wall 0", y.change(0, 0), 720);
        due("13 one that leaves the offset as it is", y.changes(0), 1);
        y.rule(0, 99, 10, 30, -720);
        due("13 those that leave the offset as it is", y.changes(0), 101);
        due("25 they are odd ones, too", y.odds(1440 + 720, 1440 + 720 + 100), 2 + 3 - 0);
        due("26 they are odd ones, too", y.odd(1440 + 720, 1440 + 720 + 100, 2), 1440 + 720 + 30);
    }

    private static void changesOfAllYears() {
        int[][] years = {{0, 0, 1}, {99, 99, 1}, {0, 99, 100}, {0, 98, 99}, {1, 99, 99}, {98, 99, 2}, {50, 50, 1}};
        for (int[] y : years) {
            OddHours x = new OddHours();
            x.zone(0);
            due("10", x.rule(0, 100 * y[0] + y[1], 3020, 5, 60), 1);
            due("10 years of " + y[0] + " to " + y[1], x.changes(0), y[2]);
            due("10 the first year", x.change(0, 0), x.nth(100 * y[0] + 3, 2, 0) * 1440 + 5);
            int last = x.nth(100 * y[1] + 3, 2, 0) * 1440 + 5 - (y[2] > 1 ? 60 : 0);
            due("10 the last year", x.change(0, y[2] - 1), last);
            due("10 no more", x.change(0, y[2]), NONE);
        }
        OddHours x = new OddHours();
        x.zone(0);
        due("10 from a year to the one ahead of it", x.rule(0, 100, 0, 0, 0), NONE);
        due("10 from the last to the first", x.rule(0, 9900, 0, 0, 0), NONE);
        due("10 from the last to the one ahead", x.rule(0, 9998, 0, 0, 0), NONE);
        // Over the end of a year: the wall of day 359 falls behind that of day 360 in moments.
        x.rule(0, 0, 11024, 1439, 720);
        due("10 the last day of year 0", x.change(0, 0), 359 * 1440 + 1439);
        x.rule(0, 101, 30, 718, 0);
        due("10 the first day of year 1 ahead of that", x.changes(0), 1);
        x.rule(0, 101, 30, 719, 0);
        due("10 the first day of year 1 at once with that", x.changes(0), 1);
        x.rule(0, 101, 30, 720, 0);
        due("10 the first day of year 1 a minute behind that", x.change(0, 1), 360 * 1440);
    }

    /** Eight rules of one year, told from the last wall to the first and crosswise. */
    private static void changesInOrder() {
        int[][] orders = {{7, 6, 5, 4, 3, 2, 1, 0}, {0, 7, 1, 6, 2, 5, 3, 4}, {3, 4, 2, 5, 1, 6, 0, 7}};
        for (int[] order : orders) {
            OddHours x = new OddHours();
            x.zone(0);
            for (int i : order) {
                due("10", x.rule(0, 0, 1, 100 * i, 10 * i + 10) > 0 ? 1 : 0, 1);
            }
            due("13 all", x.changes(0), 8);
            for (int i = 0; i < 8; i++) {
                int moment = 7 * 1440 + 100 * i - 10 * i;
                due("14 in order of minute", x.change(0, i), moment);
                due("15 till then", x.offset(0, moment - 1), 10 * i);
                due("15 from then on", x.offset(0, moment), 10 * i + 10);
            }
        }
    }

    private static void fromThatMomentOn() {
        OddHours x = new OddHours();
        x.zone(-720);
        x.rule(0, 0, 1, 1439, 720);
        int at = 7 * 1440 + 1439 + 720;
        due("15 the minute ahead", x.offset(0, at - 1), -720);
        due("15 from it on", x.offset(0, at), 720);
        due("15 the minute behind", x.offset(0, at + 1), 720);
        due("15 the first moment", x.offset(0, 0), -720);
        due("15 the last moment", x.offset(0, LAST), 720);
        due("15 ahead of the first", x.offset(0, -1), NO_OFFSET);
        due("15 behind the last", x.offset(0, LAST + 1), NO_OFFSET);
        due("16 the minute ahead", x.wall(0, at - 1), 7 * 1440 + 1438);
        due("16 from it on", x.wall(0, at), 8 * 1440 + 1439);
        OddHours y = lastMomentChange(959, 60);
        due("14 at the last moment", y.change(0, 0), LAST);
        due("15 ahead of it", y.offset(0, LAST - 1), 0);
        due("15 at it", y.offset(0, LAST), 60);
        OddHours z = lastMomentChange(960, 60);
        due("13 behind the last moment", z.changes(0), 1);
        due("15 behind the last moment", z.offset(0, LAST), 0);
    }

    /** Months of 40 days; the change on day 41666, the first weekday 2 of month 9 of year 86. */
    private static OddHours lastMomentChange(int t, int v) {
        OddHours x = new OddHours();
        for (int m = 0; m < 12; m++) {
            x.month(m, 40);
        }
        due("8 day 41666", x.nth(8609, 2, 0), 41666);
        x.zone(0);
        due("10", x.rule(0, 8686, 9020, t, v), 1);
        return x;
    }

    private static void walls() {
        for (int offset : new int[] {-720, -1, 0, 1, 720}) {
            OddHours x = new OddHours();
            x.zone(offset);
            int first = Math.max(0, -offset);
            due("16 the first wall", x.wall(0, first), first + offset);
            if (first > 0) {
                due("16 ahead of day 0", x.wall(0, first - 1), NOT);
                due("16 ahead of day 0", x.wall(0, 0), NOT);
            }
            due("16 the last wall", x.wall(0, END - 1 - offset), END - 1);
            due("16 behind the last day", x.wall(0, END - offset), NOT);
            due("16 behind the last day", x.wall(0, LAST), NOT);
            due("17 wall 0", x.moments(0, 0), offset > 0 ? 0 : 1);
            due("17 the last wall", x.moments(0, END - 1), 1);
            due("17 no wall", x.moments(0, END), NONE);
            due("17 no wall", x.moments(0, -1), NONE);
            due("18 wall 0", x.moment(0, 0, 0), offset > 0 ? NOT : -offset);
            due("18 the last wall", x.moment(0, END - 1, 0), END - 1 - offset);
            due("18 no wall", x.moment(0, END, 0), NONE);
            due("18 no wall", x.moment(0, -1, 0), NONE);
        }
        for (int offset : new int[] {-720, 0, 720}) {
            OddHours x = new OddHours();
            for (int m = 0; m < 12; m++) {
                x.month(m, 40);
            }
            x.zone(offset);
            int end = x.count(3) * 1440;
            due("16 the last moment", x.wall(0, LAST), LAST + offset);
            due("17 wall of the last moment", x.moments(0, LAST + offset), 1);
            due("17 behind it", x.moments(0, LAST + offset + 1), 0);
            due("18 behind it", x.moment(0, LAST + offset + 1, 0), NOT);
            due("17 the last wall", x.moments(0, end - 1), 0);
            due("17 no wall", x.moments(0, end), NONE);
        }
    }

    private static void momentsOfAWall() {
        OddHours x = new OddHours();
        x.zone(720);
        for (int r = 1; r <= 8; r++) {
            x.rule(0, 0, 1, 690 + r, 720 - 180 * r);
        }
        due("13 eight times back", x.changes(0), 8);
        int wall = 7 * 1440 + 600;
        due("17 nine", x.moments(0, wall), 9);
        for (int i = 0; i < 9; i++) {
            due("18 in order", x.moment(0, wall, i), wall - 720 + 180 * i);
        }
        due("18 no tenth", x.moment(0, wall, 9), NOT);
        due("18 no tenth", x.moment(0, wall, HIGH), NOT);
        OddHours y = new OddHours();
        y.zone(0);
        y.rule(0, 0, 1, 120, 1);
        y.rule(0, 0, 2, 120, 0);
        int[][] want = {{10199, 1}, {10200, 0}, {10201, 1}, {20278, 1}, {20279, 2}, {20280, 1}};
        for (int[] w : want) {
            due("17 a minute on, a minute back, wall " + w[0], y.moments(0, w[0]), w[1]);
        }
        due("18 the first of both", y.moment(0, 20279, 0), 20278);
        due("18 the second of both", y.moment(0, 20279, 1), 20279);
        due("18 no third", y.moment(0, 20279, 2), NOT);
        due("18 none", y.moment(0, 10200, 0), NOT);
        OddHours z = new OddHours();
        z.zone(-720);
        z.rule(0, 0, 1, 120, 720);
        int from = 7 * 1440 + 120;
        due("17 the farthest on, ahead", z.moments(0, from - 1), 1);
        due("17 the farthest on, the first of none", z.moments(0, from), 0);
        due("17 the farthest on, the last of none", z.moments(0, from + 1439), 0);
        due("17 the farthest on, behind", z.moments(0, from + 1440), 1);
        due("18 the farthest on, behind", z.moment(0, from + 1440, 0), from + 720);
    }

    // ---- programs

    private static int[] ops(int... ops) {
        int[] rows = new int[3 * ops.length];
        for (int i = 0; i < ops.length; i++) {
            rows[3 * i] = ops[i];
        }
        return rows;
    }

    private static void mixOfPile() {
        OddHours x = new OddHours();
        x.zone(0);
        int[] eight = {IN, KEEP, KEEP, KEEP, IN, IN, IN, IN};
        lines(x, 0, ops(eight));
        due("21 eight values fit, but not one at the end", x.mix(0), 8);
        for (int op : new int[] {IN, KEEP}) {
            lines(x, 0, ops(Arrays.copyOf(eight, 9)));
            x.clear(0);
            lines(x, 0, ops(eight));
            x.line(0, op, 0, 0);
            due("21 the ninth value", x.mix(0), 8);
            x.line(0, IN, 0, 0);
            due("21 the first line at which it does not fit", x.mix(0), 8);
        }
        lines(x, 0, ops(IN, IN, IN, IN, IN, IN, IN, IN, LESS, KEEP));
        due("21 eight, seven, eight", x.mix(0), 10);
        lines(x, 0, ops(IN, IN, IN, IN, IN, IN, IN, IN, SWAP, SWAP));
        due("21 eight may change places", x.mix(0), 10);
        for (int op = 1; op < 12; op++) {
            lines(x, 1, ops(op));
            due("21 too few values for " + op, x.mix(1), 0);
            due("22 too few values for " + op, x.kind(1), MIXED);
            due("23 too few values for " + op, x.run(1, 0), NO_NUMBER);
            lines(x, 1, ops(IN, op));
            boolean fits = op == SHOW || op == LATER || op == KEEP;
            due("21 a moment alone for " + op, x.mix(1), fits ? op == KEEP ? 2 : NOT : 1);
        }
        lines(x, 2);
        due("21 no lines, no value", x.mix(2), 0);
        lines(x, 2, ops(IN));
        due("21 one value", x.mix(2), NOT);
        lines(x, 2, ops(IN, IN));
        due("21 two values", x.mix(2), 2);
        x.clear(2);
        due("21 cleared", x.mix(2), 0);
        due("22 cleared", x.kind(2), MIXED);
        lines(x, 2, ops(IN, SHOW, DATE, AT, TURN, SHOW, DATE, AT, TURN, LATER));
        due("21 ten lines, whole", x.mix(2), NOT);
        lines(x, 2, ops(IN, SHOW, DATE, AT, TURN, SHOW, DATE, AT, TURN, DATE));
        due("21 the tenth line", x.mix(2), 9);
    }

    /** Of a full program a line that is as said is FULL, not NONE. */
    private static void opNumbers() {
        int[] least = {0, 0, 0, 0, 0, -9999, -999, -99, 0, 0, 0, 0};
        int[] mostX = {0, 4, 0, 1439, 4, 9999, 999, 99, 0, 0, 0, 0};
        int[] mostY = {0, 0, 0, 0, 1, 0, 0, 2, 0, 0, 0, 0};
        for (int op = 0; op < 12; op++) {
            int o = op;
            for (int edge : new int[] {least[op], mostX[op], 0}) {
                each("20 x of op " + op, edge - 100, edge + 100, State.FILLED, n -> n >= least[o] && n <= mostX[o],
                    (x, n) -> x.line(0, o, n, mostY[o]));
            }
            each("20 y of op " + op, -100, 100, State.FILLED, n -> n >= 0 && n <= mostY[o],
                (x, n) -> x.line(5, o, mostX[o], n));
            refused(State.FILLED, NONE, "line", 0, op, LOW, 0);
            refused(State.FILLED, NONE, "line", 0, op, HIGH, 0);
            refused(State.FILLED, NONE, "line", 0, op, 0, LOW);
            refused(State.FILLED, NONE, "line", 0, op, 0, HIGH);
        }
        for (int zones = 0; zones <= 5; zones++) {
            OddHours x = new OddHours();
            for (int z = 0; z < zones; z++) {
                x.zone(z);
            }
            for (int op : new int[] {SHOW, TURN}) {
                due("20 no such zone", x.line(0, op, zones, 0), NONE);
                due("20 no such zone", x.line(0, op, -1, 0), NONE);
                if (zones > 0) {
                    due("20 the last zone", x.line(op, op, zones - 1, 0), 0);
                }
            }
        }
        numbersAreKept();
    }

    private static void numbersAreKept() {
        OddHours x = new OddHours();
        x.zone(0);
        int m = 10000 * 1440 + 77;
        int[][] want = {{AT, 0, 10000 * 1440}, {AT, 1439, 10000 * 1440 + 1439}};
        for (int[] w : want) {
            lines(x, 0, IN, 0, 0, SHOW, 0, 0, DATE, 0, 0, w[0], w[1], 0);
            due("23 at " + w[1], x.run(0, m), w[2]);
        }
        for (int by : new int[] {-9999, 9999, 0}) {
            lines(x, 0, IN, 0, 0, LATER, by, 0);
            due("23 later by " + by, x.run(0, m), m + by);
            lines(x, 0, IN, 0, 0, SHOW, 0, 0, LATER, by, 0);
            due("23 later by " + by, x.run(0, m), m + by);
        }
        for (int by : new int[] {-999, 999, 0}) {
            lines(x, 0, IN, 0, 0, SHOW, 0, 0, STEP, by, 0);
            due("23 step of a wall by " + by, x.run(0, m), m + 1440 * by);
            lines(x, 0, IN, 0, 0, SHOW, 0, 0, DATE, 0, 0, STEP, by, 0);
            due("23 step of a day by " + by, x.run(0, m), 10000 + by);
        }
        for (int by : new int[] {-99, 99, 0}) {
            for (int ending = 0; ending < 3; ending++) {
                lines(x, 0, IN, 0, 0, SHOW, 0, 0, DATE, 0, 0, MONTH, by, ending);
                due("23 months by " + by, x.run(0, m), x.months(10000, by, ending));
            }
        }
        lines(x, 0, IN, 0, 0, SHOW, 0, 0, DATE, 0, 0);
        int[][] days = {{0, 0}, {1439, 0}, {1440, 1}, {END - 1, DAYS - 1}, {END, NO_NUMBER}};
        for (int[] d : days) {
            due("23 the day of " + d[0], x.run(0, d[0]), d[1]);
        }
    }

    private static void turns() {
        OddHours x = new OddHours();
        x.zone(0);
        x.zone(0);
        x.rule(0, 0, 1, 120, 1);
        x.rule(0, 0, 2, 120, 0);
        int[][] want = {{10199, 10199, 10199}, {10200, 10200, 10199}, {10201, 10200, 10200}, {20278, 20277, 20277},
            {20279, 20278, 20279}, {20280, 20280, 20280}};
        for (int y = 0; y < 2; y++) {
            lines(x, y, IN, 0, 0, SHOW, 1, 0, TURN, 0, y);
            for (int[] w : want) {
                due("23 turn y " + y + " of wall " + w[0], x.run(y, w[0]), w[1 + y]);
            }
        }
        OddHours z = new OddHours();
        z.zone(0);
        z.zone(1);
        z.zone(720);
        for (int y = 0; y < 2; y++) {
            lines(z, 2 * y, IN, 0, 0, SHOW, 0, 0, TURN, 1, y);
            lines(z, 2 * y + 1, IN, 0, 0, SHOW, 0, 0, TURN, 2, y);
        }
        due("23 wall 0, the first behind", z.run(0, 0), 0);
        due("23 wall 0, none ahead", z.run(2, 0), NO_NUMBER);
        due("23 wall 1 is that of moment 0", z.run(0, 1), 0);
        due("23 wall 1 is that of moment 0", z.run(2, 1), 0);
        due("23 wall 719, the first behind", z.run(1, 719), 0);
        due("23 wall 719, none ahead", z.run(3, 719), NO_NUMBER);
        due("23 wall 720", z.run(3, 720), 0);
        OddHours w = new OddHours();
        for (int m = 0; m < 12; m++) {
            w.month(m, 40);
        }
        w.zone(0);
        w.zone(-720);
        w.zone(720);
        for (int y = 0; y < 2; y++) {
            lines(w, y, IN, 0, 0, SHOW, 0, 0, TURN, 1, y);
            lines(w, 2 + y, IN, 0, 0, SHOW, 2, 0, TURN, 0, y);
        }
        due("23 the last moment", w.run(0, LAST - 720), LAST);
        due("23 the last moment", w.run(1, LAST - 720), LAST);
        due("23 behind the last moment, none behind", w.run(0, LAST - 719), NO_NUMBER);
        due("23 behind the last moment, the last ahead", w.run(1, LAST - 719), LAST);
        due("23 the last wall", w.run(2, LAST - 720), LAST);
        due("23 behind the last wall, none behind", w.run(2, LAST - 719), NO_NUMBER);
        due("23 behind the last wall, the last ahead", w.run(3, LAST), LAST);
    }

    private static void failsOfMoments() {
        OddHours x = new OddHours();
        x.zone(0);
        x.zone(-720);
        x.zone(720);
        for (int by : new int[] {1, 9999}) {
            lines(x, 0, IN, 0, 0, LATER, -by, 0);
            due("23 moment 0", x.run(0, by), 0);
            due("23 ahead of moment 0", x.run(0, by - 1), NO_NUMBER);
            lines(x, 0, IN, 0, 0, LATER, by, 0);
            due("23 the last moment", x.run(0, LAST - by), LAST);
            due("23 behind the last moment", x.run(0, LAST - by + 1), NO_NUMBER);
            lines(x, 0, IN, 0, 0, LATER, -by, 0, LATER, by, 0);
            due("23 it fails, though it would come back", x.run(0, by - 1), NO_NUMBER);
            due("23 it does not fail", x.run(0, by), by);
            lines(x, 0, IN, 0, 0, LATER, by, 0, LATER, -by, 0);
            due("23 it fails, though it would come back", x.run(0, LAST - by + 1), NO_NUMBER);
            due("23 it does not fail", x.run(0, LAST - by), LAST - by);
            // The span from the input to one that is later is put on top of another input.
            lines(x, 0, IN, 0, 0, IN, 0, 0, KEEP, 0, 0, LATER, -by, 0, LESS, 0, 0, ADD, 0, 0);
            due("23 sum of moment 0", x.run(0, by), 0);
            due("23 sum ahead of moment 0", x.run(0, by - 1), NO_NUMBER);
        }
        lines(x, 0, IN, 0, 0, IN, 0, 0, LATER, -500, 0, IN, 0, 0, LESS, 0, 0, ADD, 0, 0);
        due("23 sum of the last moment", x.run(0, LAST - 500), LAST);
        due("23 sum behind the last moment, ahead of it nothing fails", x.run(0, LAST - 499), NO_NUMBER);
    }

    private static void failsOfWalls() {
        OddHours x = new OddHours();
        x.zone(0);
        x.zone(-720);
        x.zone(720);
        lines(x, 0, IN, 0, 0, SHOW, 1, 0);
        due("23 wall 0", x.run(0, 720), 0);
        due("23 ahead of day 0", x.run(0, 719), NO_NUMBER);
        lines(x, 0, IN, 0, 0, SHOW, 2, 0);
        due("23 the last wall", x.run(0, END - 721), END - 1);
        due("23 behind the last day", x.run(0, END - 720), NO_NUMBER);
        int[][] ways = {{LATER, 9999, 9999}, {STEP, 999, 999 * 1440}, {STEP, 1, 1440}, {LATER, 1, 1}};
        for (int[] w : ways) {
            lines(x, 0, IN, 0, 0, SHOW, 0, 0, w[0], -w[1], 0);
            due("23 wall 0", x.run(0, w[2]), 0);
            due("23 ahead of day 0", x.run(0, w[2] - 1), NO_NUMBER);
            lines(x, 0, IN, 0, 0, SHOW, 0, 0, w[0], w[1], 0);
            due("23 the last wall", x.run(0, END - 1 - w[2]), END - 1);
            due("23 behind the last day", x.run(0, END - w[2]), NO_NUMBER);
            lines(x, 0, IN, 0, 0, SHOW, 0, 0, w[0], -w[1], 0, w[0], w[1], 0, TURN, 0, 0);
            due("23 it fails, though it would come back", x.run(0, w[2] - 1), NO_NUMBER);
            due("23 it does not fail", x.run(0, w[2]), w[2]);
        }
        lines(x, 0, IN, 0, 0, SHOW, 0, 0, IN, 0, 0, KEEP, 0, 0, LATER, -77, 0, LESS, 0, 0, ADD, 0, 0);
        due("23 sum of wall 0", x.run(0, 77), 0);
        lines(x, 0, IN, 0, 0, SHOW, 0, 0, IN, 0, 0, LATER, 99, 0, IN, 0, 0, LESS, 0, 0, ADD, 0, 0);
        due("23 sum of wall 0", x.run(0, 99), 0);
        due("23 sum ahead of day 0", x.run(0, 98), NO_NUMBER);
        lines(x, 0, IN, 0, 0, SHOW, 0, 0, IN, 0, 0, KEEP, 0, 0, LATER, 77, 0, LESS, 0, 0, ADD, 0, 0);
        due("23 sum of the last wall", x.run(0, END - 78), END - 1);
        due("23 sum behind the last day", x.run(0, END - 77), NO_NUMBER);
        // A moment may lie behind the last day, as long as no wall is asked for.
        lines(x, 0, IN, 0, 0, LATER, 5, 0);
        due("23 a moment without a wall", x.run(0, END), END + 5);
        lines(x, 0, IN, 0, 0, SHOW, 2, 0, TURN, 1, 0);
        due("23 a moment behind the last day in its own zone", x.run(0, END - 721), END + 719);
    }

    private static void failsOfDays() {
        OddHours x = new OddHours();
        x.month(1, 28);
        x.month(11, 28);
        x.zone(0);
        int days = x.count(3);
        for (int by : new int[] {1, 999}) {
            lines(x, 0, IN, 0, 0, SHOW, 0, 0, DATE, 0, 0, STEP, -by, 0);
            due("23 day 0", x.run(0, by * 1440), 0);
            due("23 ahead of day 0", x.run(0, by * 1440 - 1), NO_NUMBER);
            lines(x, 0, IN, 0, 0, SHOW, 0, 0, DATE, 0, 0, STEP, by, 0);
            due("23 the last day", x.run(0, (days - by) * 1440 - 1), days - 1);
            due("23 behind the last day", x.run(0, (days - by) * 1440), NO_NUMBER);
            lines(x, 0, IN, 0, 0, SHOW, 0, 0, DATE, 0, 0, STEP, by, 0, STEP, -by, 0);
            due("23 it fails, though it would come back", x.run(0, (days - by) * 1440), NO_NUMBER);
        }
        lines(x, 0, IN, 0, 0, SHOW, 0, 0, DATE, 0, 0, MONTH, -99, 0);
        int month99 = x.day(8, 300);
        due("23 the first month", x.run(0, month99 * 1440), 0);
        due("23 ahead of it", x.run(0, month99 * 1440 - 1), NO_NUMBER);
        lines(x, 0, IN, 0, 0, SHOW, 0, 0, DATE, 0, 0, MONTH, 99, 0);
        int month1100 = x.day(91, 800);
        due("23 the last month", x.run(0, month1100 * 1440 + 27 * 1440), days - 1);
        due("23 behind it", x.run(0, x.day(91, 900) * 1440), NO_NUMBER);
        int day = 28;
        int[] want = {30 + 27, 30 + 28, NO_NUMBER};
        for (int ending = 0; ending < 3; ending++) {
            lines(x, 0, IN, 0, 0, SHOW, 0, 0, DATE, 0, 0, MONTH, 1, ending);
            due("23 a month with enough days, ending " + ending, x.run(0, 27 * 1440), 57);
            due("23 a month with too few days, ending " + ending, x.run(0, day * 1440), want[ending]);
            int late = x.day(99, 1028);
            due("23 the last month with too few days", x.run(0, late * 1440), ending == 0 ? days - 1 : NO_NUMBER);
        }
    }

    /** No program of ten lines comes to a span beyond 99999999: moments, walls and days are less apart. */
    private static void spans() {
        OddHours x = new OddHours();
        for (int m = 0; m < 12; m++) {
            x.month(m, 40);
        }
        x.zone(0);
        lines(x, 0, IN, 0, 0, SHOW, 0, 0, DATE, 0, 0, KEEP, 0, 0, MONTH, 99, 0, MONTH, 99, 0, MONTH, 99, 0,
            MONTH, 99, 0, MONTH, 99, 0, LESS, 0, 0);
        int far = x.months(0, 495, 0) * 1440;
        due("23 the longest span", x.run(0, 0), far);
        due("23 the longest span", x.run(0, 1439), far);
        lines(x, 0, IN, 0, 0, SHOW, 0, 0, DATE, 0, 0, KEEP, 0, 0, MONTH, -99, 0, MONTH, -99, 0, MONTH, -99, 0,
            MONTH, -99, 0, MONTH, -99, 0, LESS, 0, 0);
        due("23 the longest span back", x.run(0, far), -far);
        lines(x, 0, IN, 0, 0, KEEP, 0, 0, LESS, 0, 0);
        due("23 no span", x.run(0, LAST), 0);
        due("23 no span", x.run(0, 0), 0);
        lines(x, 1, IN, 0, 0, SHOW, 0, 0, DATE, 0, 0, KEEP, 0, 0, STEP, -1, 0, LESS, 0, 0);
        due("23 a day back", x.run(1, 1440), -1440);
        lines(x, 1, IN, 0, 0, SHOW, 0, 0, KEEP, 0, 0, STEP, -1, 0, LESS, 0, 0);
        due("23 a wall a day back", x.run(1, 1440), -1440);
        lines(x, 1, IN, 0, 0, KEEP, 0, 0, LATER, -1, 0, SWAP, 0, 0, LESS, 0, 0);
        due("23 a minute on, changed places", x.run(1, 1440), 1);
    }

    // ---- laws

    private static void laws() {
        OddHours x = new OddHours();
        x.zone(0);
        x.zone(-1);
        x.zone(1);
        lines(x, 0, IN, 0, 0, LATER, -60, 0);
        int[][] later = {{-61, 1}, {-60, 1}, {-59, 0}, {0, 0}, {LOW, 1}, {HIGH, 0}};
        for (int[] l : later) {
            due("24 later by " + l[0] + " at least", x.keeps(0, 0, l[0], 5000), l[1]);
            due("24 what fails is not later by " + l[0], x.keeps(0, 0, l[0], 59), 0);
        }
        due("24 at moment 0", x.keeps(0, 0, -60, 60), 1);
        due("24 does not fail", x.keeps(0, 4, 0, 60), 1);
        due("24 fails", x.keeps(0, 4, 0, 59), 0);
        lines(x, 1, IN, 0, 0, KEEP, 0, 0, LATER, -60, 0, LESS, 0, 0);
        for (int[] l : later) {
            due("24 a span of " + l[0] + " at least", x.keeps(1, 3, l[0], 5000), l[1]);
            due("24 what fails is no span of " + l[0], x.keeps(1, 3, l[0], 59), 0);
        }
        lines(x, 2, IN, 0, 0);
        int[][] minutes = {{1, 1439, 1439, 1}, {1, 0, 1440, 1}, {1, 0, 1439, 0}, {1, 0, 1441, 0}, {21, 0, 1439, 1},
            {21, 1439, 1438, 1}, {11, 0, 1441, 1}, {11, 1439, 1440, 1}};
        for (int[] m : minutes) {
            due("24 law " + m[0] + " minute " + m[1] + " of " + m[2], x.keeps(2, m[0], m[1], m[2]), m[3]);
        }
        lines(x, 3, IN, 0, 0, LATER, 1, 0);
        int[][] weekdays = {{2, 1438, 1}, {2, 1439, 0}, {2, 1440, 1}, {12, 1439, 1}, {12, 1440, 0}, {12, 1441, 1},
            {22, 1437, 1}, {22, 1438, 0}, {22, 1439, 1}};
        for (int[] w : weekdays) {
            due("24 law " + w[0] + " of " + w[1], x.keeps(3, w[0], 0, w[1]), w[2]);
        }
        lines(x, 4, IN, 0, 0, SHOW, 0, 0, STEP, 7, 0, TURN, 0, 0);
        lines(x, 5, IN, 0, 0, SHOW, 0, 0, STEP, 6, 0, TURN, 0, 0);
        due("24 a week later is that weekday", x.keeps(4, 2, 0, 100), 1);
        due("24 a day less is not", x.keeps(5, 2, 0, 100), 0);
        kindsOfLaws();
    }

    private static void kindsOfLaws() {
        OddHours x = new OddHours();
        x.zone(0);
        lines(x, 0, ops(IN));
        lines(x, 1, ops(IN, SHOW));
        lines(x, 2, ops(IN, SHOW, DATE));
        lines(x, 3, ops(IN, KEEP, LESS));
        for (int kind = 0; kind < 4; kind++) {
            due("22 kind", x.kind(kind), kind);
            due("24 law 0 of kind " + kind, x.keeps(kind, 0, LOW, 0), kind == 0 ? 1 : 0);
            due("24 law 1 of kind " + kind, x.keeps(kind, 1, 0, 0), kind == 0 ? 1 : 0);
            due("24 law 2 of kind " + kind, x.keeps(kind, 2, 0, 0), kind == 0 ? 1 : 0);
            due("24 law 3 of kind " + kind, x.keeps(kind, 3, LOW, 0), kind == 3 ? 1 : 0);
            due("24 law 4 of kind " + kind, x.keeps(kind, 4, 0, 0), 1);
            due("27 law 0 of kind " + kind, x.least(kind, 0, LOW, 0, 10), kind == 0 ? NOT : 0);
            due("28 law 0 of kind " + kind, x.mend(kind, 0, LOW, 0, 10), kind == 0 ? 0 : NOT);
        }
    }

    /** Each zone's law by its own number, from all three calls that take one. */
    private static void zonesOfLaws() {
        OddHours x = new OddHours();
        for (int z = 0; z < 5; z++) {
            x.zone(100 * z);
        }
        lines(x, 0, IN, 0, 0);
        lines(x, 1, IN, 0, 0, LATER, 1, 0);
        for (int z = 0; z < 5; z++) {
            for (int other = 0; other < 5; other++) {
                int minute = 100 * other;
                boolean isKept = z == other;
                due("24 minute in zone " + z, x.keeps(0, 10 * z + 1, minute, 2880), isKept ? 1 : 0);
                due("27 minute in zone " + z, x.least(0, 10 * z + 1, minute, 2880, 0), isKept ? NOT : 2880);
                due("28 minute in zone " + z, x.mend(0, 10 * z + 1, minute, 2880, 0), isKept ? 0 : NOT);
                int last = 1439 - 100 * other;
                due("24 weekday in zone " + z, x.keeps(1, 10 * z + 2, 0, last), isKept ? 0 : 1);
                due("27 weekday in zone " + z, x.least(1, 10 * z + 2, 0, last, 0), isKept ? last : NOT);
                due("28 weekday in zone " + z, x.mend(1, 10 * z + 2, 0, last, 0), isKept ? NOT : 0);
            }
        }
    }

    /** A moment whose wall lies on no day has no minute and no weekday (see NOTES.md). */
    private static void lawsBeyondDays() {
        OddHours x = new OddHours();
        x.zone(-720);
        x.zone(0);
        lines(x, 0, IN, 0, 0);
        due("24 the first with a wall, minute", x.keeps(0, 1, 0, 720), 1);
        due("24 ahead of day 0, minute", x.keeps(0, 1, 1439, 719), 0);
        due("24 the first with a wall, weekday", x.keeps(0, 2, 0, 720), 1);
        due("24 ahead of day 0, weekday", x.keeps(0, 2, 0, 719), 0);
        due("24 the last with a wall, minute", x.keeps(0, 11, 1439, END - 1), 1);
        due("24 behind the last day, minute", x.keeps(0, 11, 0, END), 0);
        due("24 the last with a wall, weekday", x.keeps(0, 12, 0, END - 1), 1);
        due("24 behind the last day, weekday", x.keeps(0, 12, 0, END), 0);
        lines(x, 1, IN, 0, 0, LATER, -1, 0);
        due("24 the answer alone is ahead of day 0, weekday", x.keeps(1, 2, 0, 720), 0);
        due("24 none is ahead of day 0, weekday", x.keeps(1, 2, 0, 721), 1);
        lines(x, 2, IN, 0, 0, LATER, 1, 0);
        due("24 the input alone is ahead of day 0, weekday", x.keeps(2, 2, 0, 719), 0);
        due("24 the input alone is ahead of day 0, minute", x.keeps(2, 1, 0, 719), 1);
        due("24 the answer alone is behind the last day, weekday", x.keeps(2, 12, 0, END - 1), 0);
        lines(x, 3, IN, 0, 0, LATER, -1440, 0);
        due("24 the input alone is behind the last day, minute", x.keeps(3, 11, 0, END), 1);
        due("24 the input alone is behind the last day, weekday", x.keeps(3, 12, 0, END), 0);
        due("24 behind the last day in no zone, later", x.keeps(0, 0, 0, LAST), 1);
        due("24 behind the last day, it does not fail", x.keeps(0, 4, 0, LAST), 1);
    }

    // ---- odd moments

    private static void all(String what, OddHours x, int a, int b, int... want) {
        due(what + " how many", x.odds(a, b), want.length);
        for (int i = 0; i < want.length; i++) {
            due(what + " " + i, x.odd(a, b, i), want[i]);
        }
        due(what + " no more", x.odd(a, b, want.length), NONE);
        due(what + " none ahead", x.odd(a, b, -1), NONE);
    }

    private static void oddChanges() {
        OddHours x = new OddHours();
        x.zone(0);
        x.rule(0, 0, 1, 700, 60);
        int c = 7 * 1440 + 700;
        all("26 all three", x, c - 3, c + 3, c - 3, c - 1, c, c + 1, c + 3);
        all("26 they are the ends", x, c - 1, c + 1, c - 1, c, c + 1);
        all("26 from the change", x, c, c + 3, c, c + 1, c + 3);
        all("26 from behind it", x, c + 1, c + 3, c + 1, c + 3);
        all("26 behind it", x, c + 2, c + 3, c + 2, c + 3);
        all("26 up to the change", x, c - 3, c, c - 3, c - 1, c);
        all("26 up to ahead of it", x, c - 3, c - 1, c - 3, c - 1);
        all("26 ahead of it", x, c - 3, c - 2, c - 3, c - 2);
        all("26 alone", x, c, c, c);
        OddHours y = new OddHours();
        y.zone(720);
        y.rule(0, 0, 0, 720, 0);
        all("26 a change at moment 0", y, 0, 10, 0, 1, 10);
        OddHours z = lastMomentChange(959, 60);
        all("26 a change at the last moment", z, LAST - 10, LAST, LAST - 10, LAST - 1, LAST);
        OddHours w = lastMomentChange(960, 60);
        all("26 a change behind the last moment", w, LAST - 10, LAST, LAST - 10, LAST);
        OddHours v = new OddHours();
        v.zone(0);
        v.zone(0);
        v.rule(0, 0, 1, 700, 60);
        v.rule(1, 0, 1, 701, 60);
        all("26 each once", v, c - 3, c + 4, c - 3, c - 1, c, c + 1, c + 2, c + 4);
    }

    private static void oddDays() {
        for (int offset : new int[] {-720, -1, 0, 1, 720}) {
            OddHours x = new OddHours();
            x.zone(offset);
            int one = 1440 - offset;
            all("26 day 1", x, one - 3, one + 3, one - 3, one - 1, one, one + 3);
            all("26 day 1, from it", x, one, one + 3, one, one + 3);
            all("26 day 1, up to ahead of it", x, one - 3, one - 1, one - 3, one - 1);
            if (offset < -1) {
                all("26 day 0", x, 0, 800, 0, -offset - 1, -offset, 800);
            } else if (offset == -1) {
                all("26 day 0", x, 0, 600, 0, 1, 600);
            } else {
                all("26 day 0 begins at moment 0", x, 0, 600, 0, 600);
            }
            int last = END - 1440 - offset;
            all("26 the last day, and none behind it", x, last - 2, last + 9999, last - 2, last - 1, last, last + 9999);
        }
        OddHours y = new OddHours();
        y.zone(0);
        y.rule(0, 0, 1, 0, 1);
        int seven = 7 * 1440;
        // Day 7 begins with wall 1, at the change; day 8 a minute earlier.
        all("26 a day whose first minute is not", y, seven - 9, seven + 9, seven - 9, seven - 1, seven, seven + 1,
            seven + 9);
        all("26 the day behind it", y, seven + 1430, seven + 1445, seven + 1430, seven + 1438, seven + 1439,
            seven + 1445);
        OddHours z = new OddHours();
        z.zone(0);
        z.rule(0, 0, 1, 1, -1);
        all("26 a day whose ahead one comes back", z, seven - 9, seven + 9, seven - 9, seven - 1, seven, seven + 1,
            seven + 2, seven + 9);
        all("26 the day behind it", z, seven + 1430, seven + 1445, seven + 1430, seven + 1440, seven + 1441,
            seven + 1445);
        OddHours w = new OddHours();
        w.zone(0);
        w.rule(0, 0, 1, 0, -60);
        all("26 a day that is put off as it would begin", w, seven - 9, seven + 99, seven - 9, seven - 1, seven,
            seven + 1, seven + 59, seven + 60, seven + 99);
    }

    private static void oddRanges() {
        OddHours x = new OddHours();
        x.zone(0);
        due("25 the widest", x.odds(0, 2000000), 2 + 2 * 1388);
        due("25 wider", x.odds(0, 2000001), NONE);
        due("25 the widest, from 1 on", x.odds(1, 2000001), 2 + 2 * 1388);
        due("25 wider", x.odds(0, LAST), NONE);
        due("25 one", x.odds(LAST, LAST), 1);
        due("26 one", x.odd(LAST, LAST, 0), LAST);
        due("25 one", x.odds(0, 0), 1);
        due("26 one", x.odd(0, 0, 0), 0);
        due("25 two", x.odds(0, 1), 2);
        due("25 turned round", x.odds(1, 0), NONE);
        due("25 up to the last moment", x.odds(LAST - 2000000, LAST), 2);
        due("25 behind it", x.odds(LAST - 1999999, LAST + 1), NONE);
        due("26 the last of the widest", x.odd(0, 2000000, 2777), 2000000);
        due("26 no more", x.odd(0, 2000000, 2778), NONE);
        due("26 ahead of the last", x.odd(0, 2000000, 2776), 1388 * 1440);
        // Another range in between, and a refused one, have no share in what the first one answers.
        due("26 the first", x.odd(0, 2000000, 0), 0);
        due("26 another range", x.odd(10, 20, 1), 20);
        due("26 refused", x.odd(20, 10, 0), NONE);
        due("26 again", x.odd(0, 2000000, 1), 1439);
        due("27 another range", x.least(0, 4, 0, 5, 5), MIXED);
        due("26 again", x.odd(0, 2000000, 2), 1440);
    }

    /** Forty changes, each three minutes behind the one ahead: each minute of 120 is an odd one. */
    private static void oddEachMinute() {
        OddHours x = new OddHours();
        int first = 7 * 1440 + 599;
        for (int z = 0; z < 5; z++) {
            x.zone(0);
            for (int r = 0; r < 8; r++) {
                x.rule(z, 0, 1, 600 + 3 * (8 * z + r), 0);
            }
        }
        int[] minutes = new int[120];
        for (int i = 0; i < 120; i++) {
            minutes[i] = first + i;
        }
        all("26 each minute", x, first, first + 119, minutes);
        due("25 from ahead of them", x.odds(first - 9, first + 119), 121);
        due("25 up to behind them", x.odds(first, first + 128), 121);
    }

    private static void leastOnes() {
        OddHours x = new OddHours();
        x.zone(0);
        lines(x, 0, IN, 0, 0, LATER, -100, 0);
        due("27 the first of all", x.least(0, 4, 0, 0, 0), 0);
        due("27 the last that fails", x.least(0, 4, 0, 99, 0), 99);
        due("27 the first that does not", x.least(0, 4, 0, 100, 0), NOT);
        due("27 a alone fails", x.least(0, 4, 0, 99, 2000000), 99);
        due("27 the widest", x.least(0, 4, 0, 100, 2000000), NOT);
        due("27 wider", x.least(0, 4, 0, 100, 2000001), NONE);
        lines(x, 1, IN, 0, 0, LATER, 100, 0);
        due("27 b alone fails", x.least(1, 4, 0, LAST - 2000000, 2000000), LAST);
        due("27 up to the last that does not", x.least(1, 4, 0, LAST - 100 - 2000000, 2000000), NOT);
        due("27 behind the last moment", x.least(1, 4, 0, LAST - 1999999, 2000000), NONE);
        lines(x, 2, IN, 0, 0, LATER, 1, 0);
        due("27 the last minute of a day", x.least(2, 2, 0, 0, 5000), 1439);
        due("27 from behind it", x.least(2, 2, 0, 1440, 5000), 2879);
        due("27 up to ahead of it", x.least(2, 2, 0, 0, 1438), NOT);
        due("27 up to it", x.least(2, 2, 0, 0, 1439), 1439);
        // The law is broken between the odd ones alone: none of these is looked at.
        lines(x, 3, IN, 0, 0, LATER, 700, 0);
        due("27 the others are not looked at", x.least(3, 2, 0, 1440, 600), NOT);
        due("27 the others are not looked at", x.least(3, 2, 0, 1440, 739), NOT);
        due("27 b is", x.least(3, 2, 0, 1440, 740), 2180);
    }

    // ---- mending and meetings

    private static void mendedIs(OddHours x, int... numbers) {
        for (int i = 0; i < numbers.length; i++) {
            due("29 line " + i / 3 + " number " + i % 3, x.mended(i / 3, i % 3), numbers[i]);
        }
        due("29 no line behind the last", x.mended(numbers.length / 3, 0), NO_NUMBER);
        due("29 no line ahead of the first", x.mended(-1, 0), NO_NUMBER);
        due("29 no number behind y", x.mended(0, 3), NO_NUMBER);
        due("29 no number ahead of the op", x.mended(0, -1), NO_NUMBER);
    }

    private static void mendOfLines() {
        OddHours x = new OddHours();
        x.zone(0);
        int m = 3000 * 1440;
        IntUnaryOperator stepOf = later -> {
            lines(x, 0, IN, 0, 0, SHOW, 0, 0, DATE, 0, 0, LATER, later, 0);
            return x.mend(0, 4, 0, m, 0);
        };
        for (int days = -6; days <= 6; days++) {
            due("28 later of " + days + " days", stepOf.applyAsInt(1440 * days), days == 0 ? NOT : 1);
            if (days != 0) {
                mendedIs(x, IN, 0, 0, SHOW, 0, 0, DATE, 0, 0, STEP, days, 0);
            }
        }
        for (int later : new int[] {1, -1, 720, 1439, 1441, -1439, -1441, 8639, 8641, 9999, -9999}) {
            due("28 later of no days, " + later, stepOf.applyAsInt(later), NOT);
        }
        for (int days : new int[] {-999, -8, -7, -6, -1, 1, 6, 7, 8, 999}) {
            lines(x, 0, IN, 0, 0, STEP, days, 0);
            boolean isWithin = days >= -6 && days <= 6;
            due("28 step of " + days, x.mend(0, 4, 0, m, 0), isWithin ? 1 : NOT);
            if (isWithin) {
                mendedIs(x, IN, 0, 0, LATER, 1440 * days, 0);
            }
        }
        for (int ending = 0; ending < 3; ending++) {
            lines(x, 0, IN, 0, 0, SHOW, 0, 0, DATE, 0, 0, MONTH, -99, ending);
            due("28 no ending helps", x.mend(0, 4, 0, 0, 0), NOT);
        }
        lines(x, 0, IN, 0, 0, SHOW, 0, 0, TURN, 0, 0, LATER, -1, 0);
        due("28 one zone: there is no other one", x.mend(0, 4, 0, 0, 0), NOT);
        due("28 the widest", x.mend(0, 4, 0, 1, 100000), 0);
        due("28 wider", x.mend(0, 4, 0, 1, 100001), NONE);
        due("28 up to the last moment", x.mend(0, 4, 0, LAST - 100000, 100000), NOT);
        due("28 behind it", x.mend(0, 4, 0, LAST - 99999, 100000), NONE);
        lines(x, 0);
        due("28 no lines", x.mend(0, 4, 0, 0, 0), NOT);
        lines(x, 0, ops(IN, KEEP, KEEP));
        due("28 too many values", x.mend(0, 4, 0, 0, 0), NOT);
    }

    /** Which change is taken where several would do: law 4 at an input that fails as it is. */
    private static void mendOrder() {
        OddHours x = new OddHours();
        x.month(0, 31);
        for (int offset : new int[] {0, -720, 0, 100, 200}) {
            x.zone(offset);
        }
        // SHOW in zone 1 has no wall for moment 0; any other zone has one.
        lines(x, 0, IN, 0, 0, SHOW, 1, 0);
        due("28 show: the lesser zone first", x.mend(0, 4, 0, 0, 0), 1);
        mendedIs(x, IN, 0, 0, SHOW, 0, 0);
        // TURN in zone 3 has no moment ahead of wall 0: y first, then zones 0, 1, 2, 4.
        lines(x, 0, IN, 0, 0, SHOW, 0, 0, TURN, 3, 1);
        due("28 the first line ahead of the second", x.mend(0, 4, 0, 0, 0), 1);
        mendedIs(x, IN, 0, 0, SHOW, 3, 0, TURN, 3, 1);
        lines(x, 0, IN, 0, 0, LATER, 0, 0, SHOW, 0, 0, DATE, 0, 0, AT, 0, 0, TURN, 3, 1);
        due("28 turn: y ahead of zones", x.mend(0, 4, 0, 0, 0), 1);
        mendedIs(x, IN, 0, 0, LATER, 0, 0, SHOW, 0, 0, DATE, 0, 0, AT, 0, 0, TURN, 3, 0);
        due("28 turn: a zone with the y as it is", x.mend(0, 0, 1, 0, 0), 1);
        mendedIs(x, IN, 0, 0, LATER, 0, 0, SHOW, 0, 0, DATE, 0, 0, AT, 0, 0, TURN, 1, 1);
        mendEndings();
        mendCounts();
    }

    /** A month on from day 30 is day 60 by ending 0, day 61 by ending 1, and none by ending 2. */
    private static void mendEndings() {
        OddHours x = new OddHours();
        x.month(0, 31);
        x.zone(0);
        int m = 30 * 1440;
        for (int ending = 0; ending < 3; ending++) {
            lines(x, 0, IN, 0, 0, SHOW, 0, 0, DATE, 0, 0, KEEP, 0, 0, MONTH, 1, ending, LESS, 0, 0);
            lines(x, 1, IN, 0, 0, SHOW, 0, 0, DATE, 0, 0, KEEP, 0, 0, MONTH, 1, ending, SWAP, 0, 0, LESS, 0, 0);
            due("28 ending " + ending + " for law 4", x.mend(0, 4, 0, m, 0), ending == 2 ? 1 : 0);
            due("29 ending " + ending + " for law 4", x.mended(4, 2), ending == 2 ? 0 : ending);
            due("28 ending " + ending + " for 31 days", x.mend(0, 3, 31 * 1440, m, 0), ending == 1 ? 0 : 1);
            due("29 ending " + ending + " for 31 days", x.mended(4, 2), 1);
            due("28 ending " + ending + " for 32 days", x.mend(0, 3, 31 * 1440 + 1, m, 0), NOT);
            due("28 ending " + ending + " for 30 days back", x.mend(1, 3, -30 * 1440, m, 0), ending == 0 ? 0 : 1);
            due("29 ending " + ending + " for 30 days back", x.mended(4, 2), 0);
            due("28 ending " + ending + " for 31 days back", x.mend(1, 3, -31 * 1440, m, 0), ending == 2 ? 1 : 0);
            due("29 ending " + ending + " for 31 days back", x.mended(4, 2), ending == 2 ? 0 : ending);
        }
    }

    /** None, one, two lines changed, and not three; a program that is mixed may be put right. */
    private static void mendCounts() {
        OddHours x = new OddHours();
        x.zone(0);
        int[] rows = {IN, 0, 0, SHOW, 0, 0, DATE, 0, 0, AT, 0, 0};
        lines(x, 0, rows);
        due("28 as it is", x.mend(0, 4, 0, 9000, 0), 0);
        mendedIs(x, rows);
        for (int many = 1; many <= 3; many++) {
            int[] with = Arrays.copyOf(rows, rows.length + 3 * many);
            int[] want = with.clone();
            for (int i = 0; i < many; i++) {
                with[9 + 3 * i] = LATER;
                with[10 + 3 * i] = 1440;
                want[9 + 3 * i] = STEP;
                want[10 + 3 * i] = 1;
            }
            with[9 + 3 * many] = AT;
            want[9 + 3 * many] = AT;
            lines(x, 1, with);
            due("21 later of a day", x.mix(1), 3);
            due("28 lines changed", x.mend(1, 4, 0, 9000, 0), many < 3 ? many : NOT);
            if (many < 3) {
                mendedIs(x, want);
            }
            due("21 nothing is changed", x.mix(1), 3);
        }
    }

    private static void mendLatest() {
        OddHours x = new OddHours();
        x.zone(0);
        due("29 no mend yet", x.mended(0, 0), NO_NUMBER);
        lines(x, 0, IN, 0, 0, LATER, 60, 0);
        lines(x, 1, IN, 0, 0, LATER, 70, 0, LATER, 80, 0);
        due("28", x.mend(0, 4, 0, 0, 0), 0);
        mendedIs(x, IN, 0, 0, LATER, 60, 0);
        due("28", x.mend(1, 4, 0, 0, 0), 0);
        mendedIs(x, IN, 0, 0, LATER, 70, 0, LATER, 80, 0);
        due("28", x.mend(0, 4, 0, 0, 0), 0);
        mendedIs(x, IN, 0, 0, LATER, 60, 0);
        int[][] bad = {{6, 4, 0, 0, 0}, {0, 5, 0, 0, 0}, {0, 4, 1, 0, 0}, {0, 4, 0, -1, 0}, {0, 4, 0, 0, 100001}};
        for (int[] b : bad) {
            due("28 refused", x.mend(b[0], b[1], b[2], b[3], b[4]), NONE);
            mendedIs(x, IN, 0, 0, LATER, 60, 0);
        }
        x.clear(0);
        x.line(0, IN, 0, 0);
        mendedIs(x, IN, 0, 0, LATER, 60, 0);
        due("28 not", x.mend(1, 3, 0, 0, 0), NOT);
        due("29 the latest mend() found none", x.mended(0, 0), NO_NUMBER);
    }

    private static void meetingDays() {
        OddHours x = new OddHours();
        x.zone(0);
        x.rule(0, 0, 1, 120, 1);
        x.rule(0, 0, 2, 120, 0);
        int[][] none = {{119, 0}, {120, 1}, {121, 0}};
        for (int[] n : none) {
            due("30 no moment at " + n[0], x.meetings(0, 10 * n[0], 0, 4000, 0), n[1]);
        }
        int[][] two = {{118, 0}, {119, 1}, {120, 0}};
        for (int[] n : two) {
            due("30 more than one at " + n[0], x.meetings(0, 10 * n[0], 0, 4000, 1), n[1]);
        }
        due("30 from the day", x.meetings(0, 1200, 7, 100, 0), 1);
        due("30 from behind it", x.meetings(0, 1200, 8, 100, 0), 0);
        due("30 up to the day", x.meetings(0, 1200, 0, 7, 0), 1);
        due("30 up to ahead of it", x.meetings(0, 1200, 0, 6, 0), 0);
        due("30 p is one", x.meetings(0, 1200, 7, 13, 2), 1);
        due("30 q is one", x.meetings(0, 1200, 8, 14, 2), 1);
        due("30 both are", x.meetings(0, 1200, 7, 14, 2), 2);
        due("30 none is", x.meetings(0, 1200, 8, 13, 2), 0);
        due("30 one day", x.meetings(0, 0, 0, 0, 2), 1);
        due("30 one day, another weekday", x.meetings(0, 1, 0, 0, 2), 0);
        due("30 the last day", x.meetings(0, 14391, DAYS - 1, DAYS - 1, 2), 1);
        due("30 behind it", x.meetings(0, 14391, DAYS - 1, DAYS, 2), NONE);
        due("30 4000 apart", x.meetings(0, 0, 0, 4000, 2), 572);
        due("30 4001 apart", x.meetings(0, 0, 0, 4001, 2), NONE);
        due("30 4000 apart, up to the last", x.meetings(0, 0, DAYS - 4001, DAYS - 1, 2), 572);
        due("30 4001 apart, up to the last", x.meetings(0, 0, DAYS - 4002, DAYS - 1, 2), NONE);
        due("30 turned round", x.meetings(0, 0, 1, 0, 2), NONE);
        x.zone(720);
        due("30 ahead of moment 0", x.meetings(1, 7190, 0, 6, 0), 1);
        due("30 moment 0", x.meetings(1, 7200, 0, 6, 0), 0);
        x.zone(-720);
        due("30 the first wall has a moment", x.meetings(2, 0, 0, 6, 0), 0);
        OddHours y = lastMomentChange(1000, 60);
        due("30 the last moment", y.meetings(0, 9592, 41666, 41666, 0), 0);
        due("30 behind it", y.meetings(0, 9602, 41666, 41666, 0), 1);
        due("30 all behind it have none", y.meetings(0, 2, 41667, 41667 + 4000, 0), 571);
    }
}
