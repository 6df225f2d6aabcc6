import java.util.Arrays;

/**
 * A square of clocks that go on only while nobody looks at them, of walls, and of people with ways and habits.
 * All rows are made once and used again, so that a long run of calls makes hardly any objects.
 */
public final class UnseenClock {
    public static final int NONE = -1;

    private static final int NO_SUCH = -2;
    private static final int TOO_MANY = -3;
    private static final int BELOW_ZERO = -3;
    private static final int FAULTY = -4;
    private static final int HAS_NOTHING = -6;
    private static final int BEYOND_ROW = -7;
    private static final int OTHER_WIDTH = -8;

    private static final int MOST_BYTES = 2400;
    private static final int FED_BYTES = 20;
    private static final int MOST_SIDE = 12;
    private static final int MOST_MINUTES = 40;
    private static final int MOST_WALLS = 12;
    private static final int MOST_CLOCKS = 4;
    private static final int MOST_PEOPLE = 8;
    private static final int MOST_MOVES = 6;
    private static final int MOST_HABITS = 4;
    private static final int MOST_COURSES = 128;
    private static final int MOST_KEEPING = 40;
    private static final int MOST_PACE = 60;
    private static final int MOST_HOUR = 59;
    private static final int MOST_SEED = 2000000000;
    private static final int MOST_DAYS = 20;
    private static final int IMAGES = 3;
    private static final int SLOTS = 4;
    private static final int MOST_NUMBERS = 60;
    private static final int MOST_NEEDED = 8;

    /* A pair of PERSON and CLOCK is a bit of an int: 4 times the PERSON and the CLOCK. */
    private static final int PAIRS = 32;
    private static final int CLOCK_BITS = 15;

    /* What all CLOCKS show stands in one int, six bits each, as an hour is below 60. */
    private static final int HOUR_BITS = 6;
    private static final int HOUR_MASK = 63;

    /* For each set of CLOCKS the bits of their hours in such an int. */
    private static final int[] HOURS_OF_SET = {
        0x000000, 0x00003F, 0x000FC0, 0x000FFF, 0x03F000, 0x03F03F, 0x03FFC0, 0x03FFFF,
        0xFC0000, 0xFC003F, 0xFC0FC0, 0xFC0FFF, 0xFFF000, 0xFFF03F, 0xFFFFC0, 0xFFFFFF
    };

    private static final int FREE_CELL = 0;
    private static final int WALL_CELL = 1;
    private static final int CLOCK_CELL = 2;

    private static final int NORTH = 0;
    private static final int EAST = 1;
    private static final int SOUTH = 2;
    private static final int WEST = 3;
    private static final int STAY = 4;

    private static final int ALWAYS = 0;
    private static final int EACH = 1;
    private static final int SEEING = 2;
    private static final int WITH = 3;
    private static final int UNLESS = 4;
    private static final int MAYBE = 5;

    private final byte[] tape;
    private int tapeLength;
    private final Reader reader;
    private int faultKind;
    private int faultPlace;
    private Plan plan;
    private Plan draft;
    private final Plan[] images;
    private final Play plain;
    private boolean plainStands;
    private final Play trial;
    private CourseSet branches;
    private boolean branchesStand;
    private final Row[] rows;

    public UnseenClock() {
        tape = new byte[MOST_BYTES];
        reader = new Reader();
        faultPlace = NONE;
        plan = new Plan();
        draft = new Plan();
        images = new Plan[IMAGES];
        plain = new Play();
        trial = new Play();
        rows = new Row[SLOTS];
        for (int i = 0; i < SLOTS; i++) {
            rows[i] = new Row();
        }
    }

    // ---- the TAPE and the SQUARE ----

    public int feed(int a, int b, int c, int d, int e) {
        if (tapeLength + FED_BYTES > MOST_BYTES) {
            return NONE;
        }
        appendNumber(a);
        appendNumber(b);
        appendNumber(c);
        appendNumber(d);
        appendNumber(e);
        return tapeLength;
    }

    private void appendNumber(int number) {
        for (int shift = 24; shift >= 0 && tapeLength < MOST_BYTES; shift -= 8) {
            tape[tapeLength] = (byte) (number >>> shift);
            tapeLength++;
        }
    }

    public int end(int n) {
        if (n < 0 || n > tapeLength) {
            return NONE;
        }
        tapeLength = n;
        return n;
    }

    public int square() {
        reader.readSquare(tape, tapeLength, draft);
        // ahead of the FAULT's answer: what stays then is the SQUARE, and the next text is told on an empty TAPE
        tapeLength = 0;
        faultKind = reader.fault;
        faultPlace = reader.place;
        if (faultKind != 0) {
            return FAULTY;
        }
        draft.walkAll();
        Plan former = plan;
        plan = draft;
        draft = former;
        forgetCourses();
        return plan.lines;
    }

    public int fault(int what) {
        if (what == 0) {
            return faultKind;
        }
        return what == 1 ? faultPlace : NONE;
    }

    private void forgetCourses() {
        plainStands = false;
        branchesStand = false;
    }

    private Play plainCourse() {
        if (!plainStands) {
            plain.prepare(plan, plan.away);
            plain.runTo(plan.minutes);
            plainStands = true;
        }
        return plain;
    }

    private CourseSet allCourses() {
        // made late, since many an object is never asked for its courses
        if (branches == null) {
            branches = new CourseSet();
        }
        if (!branchesStand) {
            branches.build(plan, trial);
            branchesStand = true;
        }
        return branches;
    }

    private boolean noSquare() {
        return plan.lines == 0;
    }

    private boolean noPerson(int person) {
        return person < 0 || person >= plan.people;
    }

    private boolean noClock(int clock) {
        return clock < 0 || clock >= plan.clocks;
    }

    private boolean noMinute(int minute) {
        return minute < 0 || minute >= plan.minutes;
    }

    /** A moment is what a MINUTE begins as; the end is one, too. */
    private boolean noMoment(int minute) {
        return minute < 0 || minute > plan.minutes;
    }

    private boolean noClockThen(int clock, int minute) {
        return noClock(clock) || noMoment(minute);
    }

    // ---- what is so in the PLAIN course ----

    public int at(int person, int minute) {
        if (noPerson(person) || noMinute(minute)) {
            return NO_SUCH;
        }
        if ((plan.away >>> person & 1) != 0) {
            return NONE;
        }
        return plan.person[person].place[minute];
    }

    public int sees(int person, int clock, int minute) {
        if (noPerson(person) || noClock(clock) || noMinute(minute)) {
            return NO_SUCH;
        }
        int seen = plan.seen[minute] & ~pairsOf(plan.away);
        return seen >>> pair(person, clock) & 1;
    }

    public int looks(int person, int clock, int minute) {
        if (noPerson(person) || noClock(clock) || noMinute(minute)) {
            return NO_SUCH;
        }
        Play play = plainCourse();
        int bit = pair(person, clock);
        if ((play.opened[minute] >>> bit & 1) != 0) {
            return 2;
        }
        return play.looked[minute] >>> bit & 1;
    }

    public int eyes(int clock, int minute) {
        if (noClock(clock) || noMinute(minute)) {
            return NO_SUCH;
        }
        return Integer.bitCount(plainCourse().looked[minute] & lookersAt(clock));
    }

    public int shows(int clock, int minute) {
        if (noClockThen(clock, minute)) {
            return NO_SUCH;
        }
        return plainCourse().hour(clock, minute);
    }

    public int value(int clock, int minute, int what) {
        if (noClockThen(clock, minute) || what < 0 || what > 2) {
            return NO_SUCH;
        }
        Clock dial = plan.clock[clock];
        int over = Math.max(1, dial.over);
        if (what == 2) {
            return over;
        }
        int parts = dial.start * over + dial.pace * (minute - plainCourse().stoodStill(clock, minute));
        return what == 0 ? parts / over : parts % over;
    }

    public int still(int clock, int what) {
        if (noClock(clock) || what < 0 || what > 2) {
            return NO_SUCH;
        }
        Play play = plainCourse();
        if (what == 0) {
            return play.stoodStill(clock, plan.minutes);
        }
        return what == 1 ? play.longestStill(clock) : play.firstUnseen(clock);
    }

    public int open() {
        if (noSquare()) {
            return NO_SUCH;
        }
        return plainCourse().opens;
    }

    public int opens(int i) {
        if (noSquare()) {
            return NO_SUCH;
        }
        return i < 0 ? NONE : plainCourse().openLook(i);
    }

    public int bell(int n, int h) {
        if (noSquare() || noBell(n, h)) {
            return NO_SUCH;
        }
        return plainCourse().firstBell(n, h, plan.minutes);
    }

    private static boolean noBell(int clocks, int h) {
        return clocks < 1 || clocks > MOST_CLOCKS || h < 0 || h > MOST_HOUR;
    }

    public int when(int clock, int h) {
        if (noClock(clock)) {
            return NO_SUCH;
        }
        Play play = plainCourse();
        for (int minute = 0; minute <= plan.minutes; minute++) {
            if (play.hour(clock, minute) == h) {
                return minute;
            }
        }
        return NONE;
    }

    public int hours(int clock) {
        if (noClock(clock)) {
            return NO_SUCH;
        }
        Play play = plainCourse();
        long met = 0;
        for (int minute = 0; minute <= plan.minutes; minute++) {
            met |= 1L << play.hour(clock, minute);
        }
        return Long.bitCount(met);
    }

    public int meets(int person, int other) {
        if (noPerson(person) || noPerson(other) || person == other) {
            return NO_SUCH;
        }
        int met = 0;
        for (int minute = 0; minute < plan.minutes; minute++) {
            if (besides(plan.person[person].place[minute], plan.person[other].place[minute])) {
                met++;
            }
        }
        return met;
    }

    private static boolean besides(int one, int other) {
        if (one < 0 || other < 0) {
            return false;
        }
        return Math.abs(one % 100 - other % 100) <= 1 && Math.abs(one / 100 - other / 100) <= 1;
    }

    public int spots(int clock) {
        if (noClock(clock)) {
            return NO_SUCH;
        }
        int found = 0;
        for (int y = 0; y < plan.tall; y++) {
            for (int x = 0; x < plan.wide; x++) {
                if (plan.isFree(x, y) && plan.inView(x, y, plan.clock[clock])) {
                    found++;
                }
            }
        }
        return found;
    }

    // ---- what is so in all COURSES ----

    public int courses() {
        if (noSquare()) {
            return NO_SUCH;
        }
        CourseSet set = allCourses();
        return set.over ? TOO_MANY : set.size;
    }

    public int among(int clock, int minute, int h) {
        if (noClockThen(clock, minute)) {
            return NO_SUCH;
        }
        CourseSet set = allCourses();
        if (set.over) {
            return TOO_MANY;
        }
        set.markSight(0);
        return set.markedShowing(clock, minute, h);
    }

    public int agree(int slot) {
        CourseSet set = allCourses();
        int trouble = sightingTrouble(slot, set);
        if (trouble != 0) {
            return trouble;
        }
        set.markMeeting(allSightings(slot));
        return set.marked();
    }

    public int sure(int slot, int clock, int minute) {
        if (noClockThen(clock, minute)) {
            return NO_SUCH;
        }
        CourseSet set = allCourses();
        int trouble = sightingTrouble(slot, set);
        if (trouble != 0) {
            return trouble;
        }
        set.markMeeting(allSightings(slot));
        return set.onlyHour(clock, minute);
    }

    public int needs(int slot, int clock, int minute) {
        if (noClockThen(clock, minute) || noSlot(slot) || rows[slot].length > 3 * MOST_NEEDED) {
            return NO_SUCH;
        }
        CourseSet set = allCourses();
        int trouble = sightingTrouble(slot, set);
        if (trouble != 0) {
            return trouble;
        }
        int whole = allSightings(slot);
        int fewest = NONE;
        // from all down to none, since it is sure by fewer only if it is by all
        for (int some = whole; some >= 0; some--) {
            if (some == whole || Integer.bitCount(some) < fewest) {
                set.markMeeting(some);
                if (set.onlyHour(clock, minute) != NONE) {
                    fewest = Integer.bitCount(some);
                }
            }
        }
        return fewest;
    }

    /** 0, and the COURSES know which SIGHTINGS of the SLOT they meet; else what the call answers. */
    private int sightingTrouble(int slot, CourseSet set) {
        if (noSlot(slot) || noSquare()) {
            return NO_SUCH;
        }
        Row row = rows[slot];
        if (row.length == NONE) {
            return HAS_NOTHING;
        }
        if (row.length % 3 != 0) {
            return NO_SUCH;
        }
        if (set.over) {
            return TOO_MANY;
        }
        set.forgetMet();
        for (int i = 0; i + 2 < row.length; i += 3) {
            long clock = row.number[i];
            long minute = row.number[i + 1];
            if (clock < 0 || clock >= plan.clocks || minute < 0 || minute > plan.minutes) {
                return NO_SUCH;
            }
            set.noteMet(i / 3, (int) clock, (int) minute, row.number[i + 2]);
        }
        return 0;
    }

    private int allSightings(int slot) {
        return (1 << Math.max(0, rows[slot].length) / 3) - 1;
    }

    public int knows(int person, int clock, int minute) {
        if (noPerson(person) || noClockThen(clock, minute)) {
            return NO_SUCH;
        }
        CourseSet set = allCourses();
        return set.over ? TOO_MANY : set.hourBySight(1 << person, clock, minute);
    }

    public int both(int person, int other, int clock, int minute) {
        if (noPerson(person) || noPerson(other) || person == other || noClockThen(clock, minute)) {
            return NO_SUCH;
        }
        CourseSet set = allCourses();
        return set.over ? TOO_MANY : set.hourBySight(1 << person | 1 << other, clock, minute);
    }

    public int common(int set, int clock, int minute) {
        if (noClockThen(clock, minute) || set < 0 || set >= 1 << plan.people) {
            return NO_SUCH;
        }
        CourseSet branched = allCourses();
        if (branched.over) {
            return TOO_MANY;
        }
        branched.markReached(set);
        return branched.onlyHour(clock, minute);
    }

    public int alike(int person) {
        if (noPerson(person)) {
            return NO_SUCH;
        }
        CourseSet set = allCourses();
        if (set.over) {
            return TOO_MANY;
        }
        set.markSight(1 << person);
        return set.marked();
    }

    public int lie(int person, int clock, int minute, int h) {
        if (noPerson(person) || noClockThen(clock, minute)) {
            return NO_SUCH;
        }
        CourseSet set = allCourses();
        if (set.over) {
            return TOO_MANY;
        }
        return set.firstShower(person, clock, minute, h) == NONE ? 1 : 0;
    }

    public int shown(int person, int clock, int minute, int h) {
        if (noPerson(person) || noClockThen(clock, minute)) {
            return NO_SUCH;
        }
        CourseSet set = allCourses();
        return set.over ? TOO_MANY : set.firstShower(person, clock, minute, h);
    }

    public int learns(int person, int clock, int minute) {
        if (noPerson(person) || noClockThen(clock, minute)) {
            return NO_SUCH;
        }
        CourseSet set = allCourses();
        return set.over ? TOO_MANY : set.minutesToLearn(person, clock, minute);
    }

    public int sights(int person) {
        if (noPerson(person)) {
            return NO_SUCH;
        }
        CourseSet set = allCourses();
        return set.over ? TOO_MANY : set.unlikeSights(person);
    }

    // ---- who is CALLED away ----

    public int without(int person, int clock, int minute) {
        if (noPerson(person) || noClockThen(clock, minute)) {
            return NO_SUCH;
        }
        trial.prepare(plan, plan.away | 1 << person);
        trial.runTo(minute);
        return trial.hour(clock, minute);
    }

    public int hush(int m, int h, int minute, int what) {
        if (noSquare() || noBell(m, h) || noMoment(minute) || what < 0 || what > 1) {
            return NO_SUCH;
        }
        int set = fewestAway(NONE, m, minute, h);
        return set == NONE || what == 1 ? set : Integer.bitCount(set);
    }

    /** Which PEOPLE: the fewest, of several sets the least bits; a clock of NONE asks for BELL by so many CLOCKS. */
    private int fewestAway(int clock, int clocks, int minute, int h) {
        for (int size = 0; size <= plan.people; size++) {
            for (int set = 0; set < 1 << plan.people; set++) {
                if (Integer.bitCount(set) != size) {
                    continue;
                }
                trial.prepare(plan, set);
                trial.runTo(minute);
                boolean so = clock == NONE ? trial.firstBell(clocks, h, minute) != NONE : trial.hour(clock, minute) == h;
                if (so) {
                    return set;
                }
            }
        }
        return NONE;
    }

    public int call(int person, boolean away) {
        if (noPerson(person)) {
            return NO_SUCH;
        }
        int bit = 1 << person;
        int now = away ? plan.away | bit : plan.away & ~bit;
        if (now == plan.away) {
            return 0;
        }
        plan.away = now;
        forgetCourses();
        return 1;
    }

    public int away(int clock, int minute, int h, int what) {
        if (noClockThen(clock, minute) || what < 0 || what > 1) {
            return NO_SUCH;
        }
        int set = fewestAway(clock, 1, minute, h);
        return set == NONE || what == 1 ? set : Integer.bitCount(set);
    }

    // ---- keepers ----

    public int kept(int clock, int n, int minute) {
        if (noClockThen(clock, minute) || n < 0 || n > MOST_KEEPING) {
            return NO_SUCH;
        }
        return hourKept(clock, n, minute);
    }

    private int hourKept(int clock, int n, int minute) {
        trial.prepare(plan, plan.away);
        trial.keeper[clock] = n;
        trial.runTo(minute);
        return trial.hour(clock, minute);
    }

    public int keep(int clock, int minute, int h) {
        return leastKeeping(clock, minute, h);
    }

    /** The trial course is then the one that is KEPT by as many. */
    private int leastKeeping(int clock, int minute, int h) {
        if (noClockThen(clock, minute)) {
            return NO_SUCH;
        }
        // a keeper can't look more often than there are MINUTES ahead
        for (int n = 0; n <= minute; n++) {
            if (hourKept(clock, n, minute) == h) {
                return n;
            }
        }
        return NONE;
    }

    public int shifts(int clock, int minute, int h, int m) {
        if (m < 1 || m > MOST_KEEPING) {
            return NO_SUCH;
        }
        int n = leastKeeping(clock, minute, h);
        return n < 0 ? n : (n + m - 1) / m;
    }

    public int last(int clock, int minute, int h) {
        int n = leastKeeping(clock, minute, h);
        return n < 0 ? n : trial.keptLast[clock];
    }

    public int all(int m, int minute, int h) {
        if (noSquare() || noMoment(minute) || m < 1 || m > MOST_CLOCKS) {
            return NO_SUCH;
        }
        for (int n = 0; n <= minute; n++) {
            trial.prepare(plan, plan.away);
            Arrays.fill(trial.keeper, n);
            trial.runTo(minute);
            if (trial.showing(h, minute) >= m) {
                return n;
            }
        }
        return NONE;
    }

    // ---- paces ----

    public int pace(int clock, int minute, int h) {
        if (noClockThen(clock, minute)) {
            return NO_SUCH;
        }
        Clock dial = plan.clock[clock];
        int told = dial.pace;
        int found = NONE;
        for (int tried = 0; tried <= MOST_PACE && found == NONE; tried++) {
            dial.pace = tried;
            trial.prepare(plan, plan.away);
            trial.runTo(minute);
            if (trial.hour(clock, minute) == h) {
                found = tried;
            }
        }
        dial.pace = told;
        return found;
    }

    public int mends(int clock, int pace) {
        if (noClock(clock) || pace < 0 || pace > MOST_PACE) {
            return NO_SUCH;
        }
        int former = plan.clock[clock].pace;
        plan.clock[clock].pace = pace;
        forgetCourses();
        return former;
    }

    // ---- days drawn ----

    public int day(int seed, int clock, int minute) {
        if (noSeed(seed) || noClockThen(clock, minute)) {
            return NO_SUCH;
        }
        return hourDrawn(seed, clock, minute);
    }

    public int days(int seed, int n, int clock, int minute, int h) {
        if (noSeed(seed) || n < 1 || n > MOST_DAYS || noClockThen(clock, minute)) {
            return NO_SUCH;
        }
        int found = 0;
        for (int i = 0; i < n; i++) {
            if (hourDrawn(seed + i, clock, minute) == h) {
                found++;
            }
        }
        return found;
    }

    private static boolean noSeed(int seed) {
        return seed < 0 || seed > MOST_SEED;
    }

    private int hourDrawn(int seed, int clock, int minute) {
        trial.prepare(plan, plan.away);
        trial.drawFrom(seed);
        trial.runTo(minute);
        return trial.hour(clock, minute);
    }

    // ---- counts, IMAGES, SLOTS ----

    public int count(int what) {
        switch (what) {
            case 0: return plan.wide;
            case 1: return plan.tall;
            case 2: return plan.minutes;
            case 3: return plan.clocks;
            case 4: return plan.people;
            case 5: return plan.walls;
            case 6: return plan.lines;
            case 7: return tapeLength;
            case 8: return plan.away;
            case 9: return filledSlots();
            default: return NONE;
        }
    }

    private int filledSlots() {
        int filled = 0;
        for (int i = 0; i < SLOTS; i++) {
            if (rows[i].length != NONE) {
                filled++;
            }
        }
        return filled;
    }

    public int image(int k) {
        if (k < 0 || k >= IMAGES) {
            return NO_SUCH;
        }
        if (images[k] == null) {
            images[k] = new Plan();
        }
        images[k].copyFrom(plan);
        return 0;
    }

    public int back(int k) {
        if (k < 0 || k >= IMAGES) {
            return NO_SUCH;
        }
        if (images[k] == null) {
            return HAS_NOTHING;
        }
        plan.copyFrom(images[k]);
        forgetCourses();
        return 0;
    }

    public int row(int slot, int width, int n) {
        if (noSlot(slot) || width < 0 || width > 3 || n > MOST_NUMBERS) {
            return NO_SUCH;
        }
        if (n < 0) {
            return BELOW_ZERO;
        }
        rows[slot].begin(width, n);
        return 0;
    }

    public int write(int slot, int i, long v) {
        if (noSlot(slot)) {
            return NO_SUCH;
        }
        Row row = rows[slot];
        if (row.length == NONE) {
            return HAS_NOTHING;
        }
        if (i < 0 || i >= row.length) {
            return BEYOND_ROW;
        }
        row.number[i] = row.cut(v);
        return 0;
    }

    public int paste(int slot, int i, int to, int k, int n) {
        if (noSlot(slot) || noSlot(to)) {
            return NO_SUCH;
        }
        Row source = rows[slot];
        Row target = rows[to];
        if (source.length == NONE || target.length == NONE) {
            return HAS_NOTHING;
        }
        if (source.width != target.width) {
            return OTHER_WIDTH;
        }
        if (source.lacks(i, n) || target.lacks(k, n)) {
            return BEYOND_ROW;
        }
        System.arraycopy(source.number, i, target.number, k, n);
        return 0;
    }

    private static boolean noSlot(int slot) {
        return slot < 0 || slot >= SLOTS;
    }

    // ---- bits of pairs ----

    private static int pair(int person, int clock) {
        return 4 * person + clock;
    }

    /** The pairs of all PEOPLE of a set, with any CLOCK. */
    private static int pairsOf(int people) {
        int pairs = 0;
        for (int person = 0; person < MOST_PEOPLE; person++) {
            if ((people >>> person & 1) != 0) {
                pairs |= CLOCK_BITS << pair(person, 0);
            }
        }
        return pairs;
    }

    /** The pairs of anybody with a CLOCK. */
    private static int lookersAt(int clock) {
        return 0x11111111 << clock;
    }

    /** A CLOCK as it was told, but for a pace that was mended. */
    private static final class Clock {
        int x;
        int y;
        int pace;
        int over;
        int dial;
        int start;

        void copyFrom(Clock other) {
            x = other.x;
            y = other.y;
            pace = other.pace;
            over = other.over;
            dial = other.dial;
            start = other.start;
        }
    }

    /** A PERSON as told, and where he is in each MINUTE (X and 100 Y; NONE: nowhere), nobody being CALLED away. */
    private static final class Person {
        int x;
        int y;
        int from;
        int moves;
        int habits;
        final int[] way = new int[MOST_MOVES];
        final int[] steps = new int[MOST_MOVES];
        final int[] target = new int[MOST_HABITS];
        final int[] habit = new int[MOST_HABITS];
        final int[] first = new int[MOST_HABITS];
        final int[] second = new int[MOST_HABITS];
        final int[] place = new int[MOST_MINUTES];

        void copyFrom(Person other) {
            x = other.x;
            y = other.y;
            from = other.from;
            moves = other.moves;
            habits = other.habits;
            System.arraycopy(other.way, 0, way, 0, MOST_MOVES);
            System.arraycopy(other.steps, 0, steps, 0, MOST_MOVES);
            System.arraycopy(other.target, 0, target, 0, MOST_HABITS);
            System.arraycopy(other.habit, 0, habit, 0, MOST_HABITS);
            System.arraycopy(other.first, 0, first, 0, MOST_HABITS);
            System.arraycopy(other.second, 0, second, 0, MOST_HABITS);
            System.arraycopy(other.place, 0, place, 0, MOST_MINUTES);
        }
    }

    /** A SQUARE (without LINES: none), with paces and who is CALLED away. */
    private static final class Plan {
        int wide;
        int tall;
        int minutes;
        int lines;
        int walls;
        int clocks;
        int people;
        int away;
        final byte[] cell = new byte[MOST_SIDE * MOST_SIDE];
        final Clock[] clock = new Clock[MOST_CLOCKS];
        final Person[] person = new Person[MOST_PEOPLE];
        final int[] seen = new int[MOST_MINUTES];

        Plan() {
            for (int i = 0; i < MOST_CLOCKS; i++) {
                clock[i] = new Clock();
            }
            for (int i = 0; i < MOST_PEOPLE; i++) {
                person[i] = new Person();
            }
        }

        void clear() {
            wide = 0;
            tall = 0;
            minutes = 0;
            lines = 0;
            walls = 0;
            clocks = 0;
            people = 0;
            away = 0;
            Arrays.fill(cell, (byte) FREE_CELL);
        }

        void copyFrom(Plan other) {
            wide = other.wide;
            tall = other.tall;
            minutes = other.minutes;
            lines = other.lines;
            walls = other.walls;
            clocks = other.clocks;
            people = other.people;
            away = other.away;
            System.arraycopy(other.cell, 0, cell, 0, MOST_SIDE * MOST_SIDE);
            System.arraycopy(other.seen, 0, seen, 0, MOST_MINUTES);
            for (int i = 0; i < MOST_CLOCKS; i++) {
                clock[i].copyFrom(other.clock[i]);
            }
            for (int i = 0; i < MOST_PEOPLE; i++) {
                person[i].copyFrom(other.person[i]);
            }
        }

        private boolean isInside(int x, int y) {
            return x >= 0 && y >= 0 && x < wide && y < tall && x < MOST_SIDE && y < MOST_SIDE;
        }

        boolean isFree(int x, int y) {
            return isInside(x, y) && cell[y * MOST_SIDE + x] == FREE_CELL;
        }

        void fillCell(int x, int y, int kind) {
            if (isInside(x, y)) {
                cell[y * MOST_SIDE + x] = (byte) kind;
            }
        }

        /** Whether one SEES a CLOCK from a CELL. */
        boolean inView(int x, int y, Clock clock) {
            int across = clock.x - x;
            int along = clock.y - y;
            boolean straight = across == 0 || along == 0 || Math.abs(across) == Math.abs(along);
            if (!straight || across == 0 && along == 0) {
                return false;
            }
            int stepX = Integer.compare(across, 0);
            int stepY = Integer.compare(along, 0);
            int distance = Math.max(Math.abs(across), Math.abs(along));
            for (int i = 1; i < distance; i++) {
                if (!isFree(x + i * stepX, y + i * stepY)) {
                    return false;
                }
            }
            return true;
        }

        /** Once all LINES are read, since a wall told behind a PERSON stands in his way, too. */
        void walkAll() {
            Arrays.fill(seen, 0);
            for (int i = 0; i < people && i < MOST_PEOPLE; i++) {
                walk(person[i]);
                for (int minute = 0; minute < minutes && minute < MOST_MINUTES; minute++) {
                    seen[minute] |= clocksInView(person[i].place[minute]) << pair(i, 0);
                }
            }
        }

        private void walk(Person who) {
            Arrays.fill(who.place, NONE);
            int x = who.x;
            int y = who.y;
            int minute = who.from;
            putAt(who, minute, x, y);
            for (int i = 0; i < who.moves && i < MOST_MOVES; i++) {
                int stepX = who.way[i] == EAST ? 1 : who.way[i] == WEST ? -1 : 0;
                int stepY = who.way[i] == SOUTH ? 1 : who.way[i] == NORTH ? -1 : 0;
                for (int step = 0; step < who.steps[i]; step++) {
                    if (isFree(x + stepX, y + stepY)) {
                        x += stepX;
                        y += stepY;
                    }
                    minute++;
                    putAt(who, minute, x, y);
                }
            }
        }

        private void putAt(Person who, int minute, int x, int y) {
            if (minute >= 0 && minute < minutes && minute < MOST_MINUTES) {
                who.place[minute] = x + 100 * y;
            }
        }

        private int clocksInView(int place) {
            int found = 0;
            for (int i = 0; i < clocks && i < MOST_CLOCKS && place >= 0; i++) {
                if (inView(place % 100, place / 100, clock[i])) {
                    found |= 1 << i;
                }
            }
            return found;
        }
    }

    /** Reads a TAPE into a plan, TOKEN by TOKEN, up to the first FAULT: as places only grow, that is the one due. */
    private static final class Reader {
        private static final int END = 0;
        private static final int WORD = 1;
        private static final int NUMBER = 2;
        private static final int SIGN = 3;
        private static final int NO_TOKEN = 4;

        /* Stands for any number that is too long; it is out of all bounds. */
        private static final int HUGE = 1000000;

        int fault;
        int place;
        private byte[] text;
        private int length;
        private int kind;
        private int from;
        private int to;
        private int number;
        private int taken;
        private int cellX;
        private int cellY;
        private Plan plan;

        void readSquare(byte[] tape, int tapeLength, Plan draft) {
            text = tape;
            length = Math.min(tapeLength, tape.length);
            plan = draft;
            plan.clear();
            fault = 0;
            place = NONE;
            to = 0;
            step();
            for (int i = 0; i < MOST_BYTES && kind != END; i++) {
                if (!readLine() || !takeSign()) {
                    return;
                }
                plan.lines++;
            }
        }

        private boolean refuse(int why) {
            fault = why;
            place = from;
            return false;
        }

        /** To the next TOKEN: the longest that stands there. */
        private void step() {
            from = to;
            while (from < length && (text[from] == ' ' || text[from] == 10)) {
                from++;
            }
            to = from;
            number = 0;
            while (to < length && text[to] >= 'a' && text[to] <= 'z') {
                to++;
            }
            if (to > from) {
                kind = WORD;
                return;
            }
            while (to < length && text[to] >= '0' && text[to] <= '9') {
                number = Math.min(HUGE, 10 * number + text[to] - '0');
                to++;
            }
            if (to > from) {
                kind = NUMBER;
            } else if (from >= length) {
                kind = END;
            } else {
                kind = text[from] == ';' ? SIGN : NO_TOKEN;
                to++;
            }
        }

        private boolean isWord(String word) {
            if (kind != WORD || to - from != word.length()) {
                return false;
            }
            for (int i = 0; i < word.length() && from + i < length; i++) {
                if (text[from + i] != word.charAt(i)) {
                    return false;
                }
            }
            return true;
        }

        private boolean takeWord(String word) {
            if (!isWord(word)) {
                return refuse(1);
            }
            step();
            return true;
        }

        private boolean takeSign() {
            if (kind != SIGN) {
                return refuse(1);
            }
            step();
            return true;
        }

        private boolean takeNumber(int least, int most) {
            if (kind != NUMBER) {
                return refuse(1);
            }
            if (number < least || number > most) {
                return refuse(2);
            }
            taken = number;
            step();
            return true;
        }

        /** X and Y; the CELL is looked at ahead of the step behind Y, since a FAULT of it has the place of Y. */
        private boolean takeFreeCell() {
            if (!takeNumber(0, plan.wide - 1)) {
                return false;
            }
            cellX = taken;
            cellY = number;
            boolean inBounds = kind == NUMBER && number < plan.tall;
            if (inBounds && !plan.isFree(cellX, cellY)) {
                return refuse(2);
            }
            return takeNumber(0, plan.tall - 1);
        }

        private boolean readLine() {
            if (plan.lines == 0) {
                return readSize();
            }
            if (isWord("wall")) {
                return readWall();
            }
            if (isWord("clock")) {
                return readClock();
            }
            if (isWord("person")) {
                return readPerson();
            }
            if (isWord("go")) {
                return readGo();
            }
            if (isWord("wait")) {
                return readWait();
            }
            return isWord("look") ? readLook() : refuse(1);
        }

        private boolean readSize() {
            if (!takeWord("square") || !takeWord("wide") || !takeNumber(2, MOST_SIDE)) {
                return false;
            }
            plan.wide = taken;
            if (!takeWord("long") || !takeNumber(2, MOST_SIDE)) {
                return false;
            }
            plan.tall = taken;
            if (!takeWord("minutes") || !takeNumber(5, MOST_MINUTES)) {
                return false;
            }
            plan.minutes = taken;
            return true;
        }

        private boolean readWall() {
            if (plan.walls >= MOST_WALLS) {
                return refuse(3);
            }
            step();
            if (!takeWord("at") || !takeFreeCell()) {
                return false;
            }
            plan.fillCell(cellX, cellY, WALL_CELL);
            plan.walls++;
            return true;
        }

        private boolean readClock() {
            if (plan.clocks >= MOST_CLOCKS) {
                return refuse(3);
            }
            Clock clock = plan.clock[plan.clocks];
            step();
            if (!takeWord("at") || !takeFreeCell()) {
                return false;
            }
            clock.x = cellX;
            clock.y = cellY;
            if (!takeWord("pace") || !takeNumber(0, MOST_PACE)) {
                return false;
            }
            clock.pace = taken;
            if (!takeWord("over") || !takeNumber(1, 12)) {
                return false;
            }
            clock.over = taken;
            if (!takeWord("shows") || !takeNumber(2, MOST_HOUR + 1)) {
                return false;
            }
            clock.dial = taken;
            if (!takeWord("from") || !takeNumber(0, clock.dial - 1)) {
                return false;
            }
            clock.start = taken;
            plan.fillCell(clock.x, clock.y, CLOCK_CELL);
            plan.clocks++;
            return true;
        }

        private boolean readPerson() {
            if (plan.people >= MOST_PEOPLE) {
                return refuse(3);
            }
            Person who = plan.person[plan.people];
            who.moves = 0;
            who.habits = 0;
            step();
            if (!takeWord("at") || !takeFreeCell()) {
                return false;
            }
            who.x = cellX;
            who.y = cellY;
            if (!takeWord("from") || !takeNumber(0, plan.minutes - 1)) {
                return false;
            }
            who.from = taken;
            plan.people++;
            return true;
        }

        private boolean lacksPerson() {
            return plan.people < 1 || plan.people > MOST_PEOPLE;
        }

        private boolean readGo() {
            if (lacksPerson()) {
                return refuse(2);
            }
            Person who = plan.person[plan.people - 1];
            if (who.moves >= MOST_MOVES) {
                return refuse(3);
            }
            step();
            int way = wayTold();
            if (way == NONE) {
                return refuse(1);
            }
            step();
            return takeMove(who, way, 12);
        }

        private int wayTold() {
            if (isWord("north")) {
                return NORTH;
            }
            if (isWord("east")) {
                return EAST;
            }
            if (isWord("south")) {
                return SOUTH;
            }
            return isWord("west") ? WEST : NONE;
        }

        private boolean readWait() {
            if (lacksPerson()) {
                return refuse(2);
            }
            Person who = plan.person[plan.people - 1];
            if (who.moves >= MOST_MOVES) {
                return refuse(3);
            }
            step();
            return takeMove(who, STAY, 40);
        }

        private boolean takeMove(Person who, int way, int most) {
            if (!takeNumber(1, most)) {
                return false;
            }
            who.way[who.moves] = way;
            who.steps[who.moves] = taken;
            who.moves++;
            return true;
        }

        private boolean readLook() {
            if (lacksPerson()) {
                return refuse(2);
            }
            Person who = plan.person[plan.people - 1];
            if (who.habits >= MOST_HABITS) {
                return refuse(3);
            }
            step();
            if (!takeWord("at") || !takeNumber(0, plan.clocks - 1)) {
                return false;
            }
            who.target[who.habits] = taken;
            if (!readHabit(who, who.habits)) {
                return false;
            }
            who.habits++;
            return true;
        }

        private boolean readHabit(Person who, int i) {
            int habit = habitTold();
            if (habit == NONE) {
                return refuse(1);
            }
            step();
            who.habit[i] = habit;
            if (habit == ALWAYS) {
                return true;
            }
            if (!takeNumber(habit == EACH ? 1 : 0, mostOf(habit))) {
                return false;
            }
            who.first[i] = taken;
            if (habit != EACH && habit != SEEING) {
                return true;
            }
            boolean each = habit == EACH;
            if (!takeWord(each ? "after" : "is") || !takeNumber(0, each ? 39 : MOST_HOUR)) {
                return false;
            }
            who.second[i] = taken;
            return true;
        }

        private int habitTold() {
            if (isWord("always")) {
                return ALWAYS;
            }
            if (isWord("each")) {
                return EACH;
            }
            if (isWord("seeing")) {
                return SEEING;
            }
            if (isWord("with")) {
                return WITH;
            }
            if (isWord("unless")) {
                return UNLESS;
            }
            return isWord("maybe") ? MAYBE : NONE;
        }

        /** The most that the first number of a HABIT may be. */
        private int mostOf(int habit) {
            switch (habit) {
                case EACH: return 40;
                case SEEING: return plan.clocks - 1;
                case MAYBE: return 100;
                default: return MOST_PEOPLE - 1;
            }
        }
    }

    /** One course, MINUTE by MINUTE: of looks that are OPEN some are taken as chosen, the others as no. */
    private static final class Play {
        final int[] looked = new int[MOST_MINUTES];
        final int[] opened = new int[MOST_MINUTES];
        final int[] faces = new int[MOST_MINUTES + 1];
        final int[] keeper = new int[MOST_CLOCKS];
        final int[] keptLast = new int[MOST_CLOCKS];
        int opens;
        private final int[] parts = new int[MOST_CLOCKS];
        private final int[] choice = new int[MOST_COURSES];
        private int chosen;
        private Plan plan;
        private int hidden;
        private boolean drawn;
        private long draw;
        private int yes;
        private int left;

        void prepare(Plan told, int away) {
            plan = told;
            hidden = pairsOf(away);
            chosen = 0;
            drawn = false;
            Arrays.fill(keeper, 0);
        }

        void drawFrom(int seed) {
            drawn = true;
            draw = seed;
        }

        /** From the first MINUTE up to the beginning of one. */
        void runTo(int moment) {
            opens = 0;
            Arrays.fill(looked, 0);
            Arrays.fill(opened, 0);
            Arrays.fill(keptLast, NONE);
            int clocks = Math.min(plan.clocks, MOST_CLOCKS);
            for (int i = 0; i < clocks; i++) {
                parts[i] = plan.clock[i].start * plan.clock[i].over;
            }
            for (int minute = 0; minute < moment && minute < MOST_MINUTES; minute++) {
                faces[minute] = readFaces(clocks);
                weighHabits(minute);
                settleLeft(minute);
                looked[minute] = yes;
                for (int i = 0; i < clocks; i++) {
                    goOn(i, minute);
                }
            }
            if (moment >= 0 && moment <= MOST_MINUTES) {
                faces[moment] = readFaces(clocks);
            }
        }

        private int readFaces(int clocks) {
            int packed = 0;
            for (int i = 0; i < clocks; i++) {
                int whole = parts[i] / Math.max(1, plan.clock[i].over);
                packed |= whole % Math.max(1, plan.clock[i].dial) << HOUR_BITS * i;
            }
            return packed;
        }

        private void goOn(int clock, int minute) {
            if ((yes & lookersAt(clock)) != 0) {
                return;
            }
            if (keeper[clock] > 0) {
                keeper[clock]--;
                keptLast[clock] = minute;
            } else {
                parts[clock] += plan.clock[clock].pace;
            }
        }

        /** Looks at CLOCKS in view: yes, or left as they hang on others' looks, or neither. */
        private void weighHabits(int minute) {
            yes = 0;
            left = 0;
            int seen = plan.seen[minute] & ~hidden;
            for (int person = 0; person < plan.people && person < MOST_PEOPLE; person++) {
                Person who = plan.person[person];
                int inView = seen >>> 4 * person & CLOCK_BITS;
                for (int i = 0; i < who.habits && i < MOST_HABITS && inView != 0; i++) {
                    if ((inView >>> who.target[i] & 1) == 0) {
                        continue;
                    }
                    int bit = 1 << pair(person, who.target[i]);
                    if (hangsOnOther(who.habit[i])) {
                        left |= bit;
                    } else if (holdsAlone(person, i, minute)) {
                        yes |= bit;
                    }
                }
            }
            left &= ~yes;
        }

        private static boolean hangsOnOther(int habit) {
            return habit == WITH || habit == UNLESS;
        }

        private boolean holdsAlone(int person, int i, int minute) {
            Person who = plan.person[person];
            int first = who.first[i];
            int second = who.second[i];
            switch (who.habit[i]) {
                case ALWAYS:
                    return true;
                case EACH:
                    return minute >= second && (minute - second) % Math.max(1, first) == 0;
                case SEEING:
                    return minute > 0 && (looked[minute - 1] >>> pair(person, first) & 1) != 0
                        && hour(first, minute - 1) == second;
                case MAYBE:
                    return drawn && nextDraw() < first;
                default:
                    return false;
            }
        }

        private int nextDraw() {
            draw = 1103515245L * draw + 12345L & 0x7FFFFFFFL;
            return (int) (draw / 65536L % 100L);
        }

        /** Each turn settles a look or takes an OPEN one, so that PAIRS turns are enough. */
        private void settleLeft(int minute) {
            for (int turn = 0; turn < PAIRS && left != 0; turn++) {
                int before = left;
                for (int bit = 0; bit < PAIRS; bit++) {
                    if ((left >>> bit & 1) != 0) {
                        settleOne(bit);
                    }
                }
                if (left == before) {
                    takeOpen(minute);
                }
            }
        }

        private void settleOne(int bit) {
            Person who = plan.person[bit >>> 2 & MOST_PEOPLE - 1];
            int clock = bit & 3;
            boolean canHold = false;
            for (int i = 0; i < who.habits && i < MOST_HABITS; i++) {
                if (who.target[i] != clock || !hangsOnOther(who.habit[i])) {
                    continue;
                }
                int other = pair(who.first[i], clock);
                if ((left >>> other & 1) != 0) {
                    canHold = true;
                } else if ((yes >>> other & 1) != 0 == (who.habit[i] == WITH)) {
                    yes |= 1 << bit;
                    left &= ~(1 << bit);
                    return;
                }
            }
            if (!canHold) {
                left &= ~(1 << bit);
            }
        }

        private void takeOpen(int minute) {
            int first = left & -left;
            left &= ~first;
            opened[minute] |= first;
            if (opens < MOST_COURSES) {
                if (opens >= chosen) {
                    choice[opens] = 0;
                }
                if (choice[opens] != 0) {
                    yes |= first;
                }
            }
            opens++;
        }

        /** Chooses for the course behind this one, no ahead of yes; false: this was the last. */
        boolean chooseNext() {
            for (int i = Math.min(opens, MOST_COURSES) - 1; i >= 0; i--) {
                if (choice[i] == 0) {
                    choice[i] = 1;
                    chosen = i + 1;
                    return true;
                }
            }
            return false;
        }

        int hour(int clock, int moment) {
            return faces[moment] >>> HOUR_BITS * clock & HOUR_MASK;
        }

        int showing(int h, int moment) {
            int found = 0;
            for (int i = 0; i < plan.clocks; i++) {
                if (hour(i, moment) == h) {
                    found++;
                }
            }
            return found;
        }

        int firstBell(int clocks, int h, int lastMoment) {
            for (int moment = 0; moment <= lastMoment; moment++) {
                if (showing(h, moment) >= clocks) {
                    return moment;
                }
            }
            return NONE;
        }

        private boolean isSeen(int clock, int minute) {
            return (looked[minute] & lookersAt(clock)) != 0;
        }

        int stoodStill(int clock, int moment) {
            int found = 0;
            for (int minute = 0; minute < moment; minute++) {
                if (isSeen(clock, minute)) {
                    found++;
                }
            }
            return found;
        }

        int longestStill(int clock) {
            int longest = 0;
            int inRow = 0;
            for (int minute = 0; minute < plan.minutes; minute++) {
                inRow = isSeen(clock, minute) ? inRow + 1 : 0;
                longest = Math.max(longest, inRow);
            }
            return longest;
        }

        int firstUnseen(int clock) {
            for (int minute = 0; minute < plan.minutes; minute++) {
                if (!isSeen(clock, minute)) {
                    return minute;
                }
            }
            return NONE;
        }

        /** OPEN look i; of one MINUTE they were taken in the order of their bits. */
        int openLook(int i) {
            int ahead = i;
            for (int minute = 0; minute < plan.minutes; minute++) {
                for (int bit = 0; bit < PAIRS; bit++) {
                    if ((opened[minute] >>> bit & 1) == 0) {
                        continue;
                    }
                    if (ahead == 0) {
                        return 100 * minute + 10 * (bit >>> 2) + (bit & 3);
                    }
                    ahead--;
                }
            }
            return NONE;
        }
    }

    /** All COURSES, the PLAIN one first; some of them can be marked, for questions about just these. */
    private static final class CourseSet {
        int size;
        boolean over;
        private int minutes;
        private int people;
        private final int[] looked = new int[MOST_COURSES * MOST_MINUTES];
        private final int[] faces = new int[MOST_COURSES * (MOST_MINUTES + 1)];
        /* For each PERSON and course the first course with the same SIGHT of his. */
        private final int[] sight = new int[MOST_PEOPLE * MOST_COURSES];
        private final int[] met = new int[MOST_COURSES];
        private final int[] mark = new int[MOST_COURSES];
        private final int[] queue = new int[MOST_COURSES];

        void build(Plan plan, Play play) {
            minutes = Math.min(plan.minutes, MOST_MINUTES);
            people = Math.min(plan.people, MOST_PEOPLE);
            size = 0;
            over = false;
            boolean more = true;
            play.prepare(plan, plan.away);
            for (int i = 0; i < MOST_COURSES && more; i++) {
                play.runTo(minutes);
                // each OPEN look of a course parts at least one other course from it
                if (play.opens >= MOST_COURSES) {
                    over = true;
                    return;
                }
                store(play, i);
                more = play.chooseNext();
            }
            over = more;
            if (!over) {
                sortSights();
            }
        }

        private void store(Play play, int course) {
            System.arraycopy(play.looked, 0, looked, course * MOST_MINUTES, minutes);
            System.arraycopy(play.faces, 0, faces, course * (MOST_MINUTES + 1), minutes + 1);
            size = course + 1;
        }

        private void sortSights() {
            for (int person = 0; person < people; person++) {
                for (int course = 0; course < size; course++) {
                    int like = 0;
                    while (like < course && firstUnlike(person, course, like) < minutes) {
                        like++;
                    }
                    sight[person * MOST_COURSES + course] = like;
                }
            }
        }

        /** The first MINUTE in which SIGHT of a PERSON is not the same in two COURSES; minutes: none. */
        private int firstUnlike(int person, int one, int other) {
            for (int minute = 0; minute < minutes; minute++) {
                int looks = looked[one * MOST_MINUTES + minute] >>> pair(person, 0) & CLOCK_BITS;
                int looksThere = looked[other * MOST_MINUTES + minute] >>> pair(person, 0) & CLOCK_BITS;
                if (looks != looksThere || (unlikeFaces(one, other, minute) & HOURS_OF_SET[looks]) != 0) {
                    return minute;
                }
            }
            return minutes;
        }

        private int unlikeFaces(int one, int other, int moment) {
            return faces[one * (MOST_MINUTES + 1) + moment] ^ faces[other * (MOST_MINUTES + 1) + moment];
        }

        private int hour(int course, int clock, int moment) {
            return faces[course * (MOST_MINUTES + 1) + moment] >>> HOUR_BITS * clock & HOUR_MASK;
        }

        private boolean sameSight(int set, int one, int other) {
            for (int person = 0; person < people; person++) {
                int row = person * MOST_COURSES;
                if ((set >>> person & 1) != 0 && sight[row + one] != sight[row + other]) {
                    return false;
                }
            }
            return true;
        }

        /** Marks the COURSES in which the SIGHT of each one of a set is as in the PLAIN one. */
        void markSight(int set) {
            for (int course = 0; course < size; course++) {
                mark[course] = sameSight(set, 0, course) ? 1 : 0;
            }
        }

        /** Marks the COURSES to which one comes from the PLAIN one by steps, each by the SIGHT of one of a set. */
        void markReached(int set) {
            Arrays.fill(mark, 0);
            mark[0] = 1;
            queue[0] = 0;
            int queued = 1;
            for (int i = 0; i < queued && i < MOST_COURSES; i++) {
                for (int course = 0; course < size; course++) {
                    if (mark[course] == 0 && sharesSight(set, queue[i], course) && queued < MOST_COURSES) {
                        mark[course] = 1;
                        queue[queued] = course;
                        queued++;
                    }
                }
            }
        }

        private boolean sharesSight(int set, int one, int other) {
            for (int person = 0; person < people; person++) {
                if ((set >>> person & 1) != 0 && sameSight(1 << person, one, other)) {
                    return true;
                }
            }
            return false;
        }

        void forgetMet() {
            Arrays.fill(met, 0);
        }

        void noteMet(int sighting, int clock, int moment, long h) {
            for (int course = 0; course < size; course++) {
                if (hour(course, clock, moment) == h) {
                    met[course] |= 1 << sighting;
                }
            }
        }

        /** Marks the COURSES in which all SIGHTINGS of a set are so. */
        void markMeeting(int sightings) {
            for (int course = 0; course < size; course++) {
                mark[course] = (met[course] & sightings) == sightings ? 1 : 0;
            }
        }

        int marked() {
            int found = 0;
            for (int course = 0; course < size; course++) {
                found += mark[course];
            }
            return found;
        }

        int markedShowing(int clock, int moment, int h) {
            int found = 0;
            for (int course = 0; course < size; course++) {
                if (mark[course] != 0 && hour(course, clock, moment) == h) {
                    found++;
                }
            }
            return found;
        }

        /** What a CLOCK SHOWS in all marked COURSES; NONE: not the same in all, or none is marked. */
        int onlyHour(int clock, int moment) {
            int only = NONE;
            for (int course = 0; course < size; course++) {
                if (mark[course] != 0) {
                    int h = hour(course, clock, moment);
                    if (only != NONE && only != h) {
                        return NONE;
                    }
                    only = h;
                }
            }
            return only;
        }

        int hourBySight(int set, int clock, int moment) {
            markSight(set);
            return onlyHour(clock, moment);
        }

        /** The first PERSON, but for one, in none of whose COURSES by SIGHT a CLOCK SHOWS h. */
        int firstShower(int liar, int clock, int moment, int h) {
            for (int person = 0; person < people; person++) {
                if (person != liar) {
                    markSight(1 << person);
                    if (markedShowing(clock, moment, h) == 0) {
                        return person;
                    }
                }
            }
            return NONE;
        }

        /** Behind the last MINUTE that parts a course in which the CLOCK SHOWS something else; NONE: one is never parted. */
        int minutesToLearn(int person, int clock, int moment) {
            int needed = 0;
            for (int course = 1; course < size; course++) {
                if (hour(course, clock, moment) != hour(0, clock, moment)) {
                    int parting = firstUnlike(person, 0, course);
                    if (parting >= minutes) {
                        return NONE;
                    }
                    needed = Math.max(needed, parting + 1);
                }
            }
            return needed;
        }

        int unlikeSights(int person) {
            int found = 0;
            for (int course = 0; course < size; course++) {
                if (sight[person * MOST_COURSES + course] == course) {
                    found++;
                }
            }
            return found;
        }
    }

    /** A SLOT's row of numbers, each cut to its WIDTH; its length is NONE while the SLOT has nothing. */
    private static final class Row {
        int width;
        int length = NONE;
        final long[] number = new long[MOST_NUMBERS];

        void begin(int bytes, int n) {
            width = bytes;
            length = n;
            Arrays.fill(number, 0L);
        }

        long cut(long v) {
            switch (width) {
                case 0: return (byte) v;
                case 1: return (short) v;
                case 2: return (int) v;
                default: return v;
            }
        }

        boolean lacks(int i, int n) {
            return i < 0 || n < 0 || (long) i + n > length;
        }
    }
}
