import java.lang.reflect.Method;
import java.util.Arrays;

/** The bounds of what each call is asked for: promises 6 to 51. */
public final class CallBoundaryTest {
    private static final int NONE = UnseenClock.NONE;
    private static final int LOWEST = Integer.MIN_VALUE;
    private static final int HIGHEST = Integer.MAX_VALUE;

    /* The clock is looked at in MINUTES 1, 2 and 3: it SHOWS 7 8 8 8 8 0. */
    private static final String[] ONE = {
        "square wide 3 long 3 minutes 5", "clock at 1 1 pace 1 over 1 shows 9 from 7", "person at 0 0 from 1", "wait 2", "look at 0 always"
    };

    /* 0 and 1 look in MINUTE 0, 2 in MINUTE 1: it SHOWS 0 0 0 1 2 3. */
    private static final String[] THREE = {
        "square wide 3 long 3 minutes 5", "clock at 1 1 pace 1 over 1 shows 9 from 0", "person at 0 0 from 0", "look at 0 always",
        "person at 2 0 from 0", "look at 0 always", "person at 0 2 from 1", "look at 0 always"
    };

    /* 0 and 1 look with each other in MINUTE 0, which is OPEN; 2 sees nothing. At the end it SHOWS 5, in the other course 4. */
    private static final String[] WITH = {
        "square wide 5 long 5 minutes 5", "clock at 2 2 pace 1 over 1 shows 12 from 0", "person at 0 0 from 0", "look at 0 with 1",
        "person at 4 4 from 0", "look at 0 with 0", "person at 0 1 from 0"
    };

    private static final String ALONE = "square wide 2 long 2 minutes 40";
    private static final String GOING = "clock at 1 1 pace 1 over 1 shows 60 from 0";

    /** A CLOCK that nobody looks at, for 40 MINUTES. */
    private static UnseenClock alone() {
        return Probe.of(ALONE, GOING);
    }

    /** One who looks with himself, in so many MINUTES: each of these looks is OPEN. */
    private static UnseenClock selves(int minutes, int all) {
        String wait = minutes > 1 ? "wait " + (minutes - 1) : "look at 0 maybe 0";
        return Probe.of("square wide 3 long 3 minutes " + all, "clock at 1 1 pace 1 over 1 shows 60 from 0", "person at 0 0 from 0", wait, "look at 0 with 0", "person at 2 1 from 0");
    }

    public static void main(String[] args) throws Exception {
        refusals();
        plainCourse();
        courses();
        sightings();
        knowledge();
        paths();
        calledAway();
        keepers();
        paces();
        days();
        counts();
        images();
        rows();
        Probe.finish();
    }

    // ---------------------------------------------------------------- each number of each call, on both sides of its bounds

    private static final Method[] FACE = UnseenClock.class.getMethods();

    private static int ask(UnseenClock x, String name, int[] v) throws Exception {
        for (Method m : FACE) {
            if (m.getName().equals(name)) {
                Object[] values = new Object[v.length];
                for (int i = 0; i < v.length; i++) {
                    values[i] = m.getParameterTypes()[i] == boolean.class ? (Object) (v[i] != 0) : (Object) v[i];
                }
                return (Integer) m.invoke(x, values);
            }
        }
        throw new IllegalStateException(name);
    }

    /** Least and most of a kind of number, in standing(): 3 PEOPLE, 2 CLOCKS, 7 MINUTES. */
    private static int[] range(char kind) {
        switch (kind) {
            case 'P': return new int[] {0, 2};
            case 'C': return new int[] {0, 1};
            case 'M': return new int[] {0, 6};
            case 'E': return new int[] {0, 7};
            case '2': return new int[] {0, 1};
            case '3': return new int[] {0, 2};
            case 'N': return new int[] {1, 4};
            case 'H': return new int[] {0, 59};
            case 'K': return new int[] {0, 40};
            case 'S': return new int[] {1, 40};
            case 'A': return new int[] {0, 60};
            case 'D': return new int[] {0, 2000000000};
            case 'T': return new int[] {1, 20};
            case 'L': return new int[] {0, 3};
            case 'B': return new int[] {0, 7};
            default: return null;
        }
    }

    /** Within its bounds a number is taken, beyond them it is refused with -2; a question leaves all as it was, and so does what is refused. */
    private static void bounds(String words, String name, String kinds, int... base) throws Exception {
        Probe.sentence(words);
        for (int i = 0; i < base.length; i++) {
            int[] range = range(kinds.charAt(i));
            if (range == null) {
                continue;
            }
            for (int v : new int[] {range[0], range[1], range[0] - 1, range[1] + 1, LOWEST, HIGHEST}) {
                int[] values = base.clone();
                values[i] = v;
                String call = name + Arrays.toString(values);
                UnseenClock x = Probe.standing();
                boolean within = v >= range[0] && v <= range[1];
                int answer = ask(x, name, values);
                if (within) {
                    Probe.dueNot(call, answer, -2);
                } else {
                    Probe.due(call, answer, -2);
                }
                if (!within || !name.equals("mends") && !name.equals("call")) {
                    Probe.dueSame(call, Probe.restAndFault(x), Probe.restAndFault(Probe.standing()));
                }
            }
        }
        UnseenClock none = new UnseenClock();
        none.row(0, 0, 0);
        Probe.due(name + ", no SQUARE", ask(none, name, base), -2);
        UnseenClock gone = Probe.standing();
        gone.end(0);
        gone.square();
        Probe.due(name + ", no SQUARE any more", ask(gone, name, base), -2);
        UnseenClock bare = Probe.standing();
        bare.square();
        boolean asksForSome = kinds.contains("C") || kinds.contains("P");
        if (asksForSome) {
            Probe.due(name + ", neither CLOCK nor PERSON", ask(bare, name, base), -2);
        }
    }

    /** An hour that no CLOCK ever SHOWS is no wrong number. */
    private static void nowhere(int want, String name, int hour, int... base) throws Exception {
        for (int h : new int[] {-1, 60, 63, 64, 75, 256, LOWEST, HIGHEST}) {
            int[] values = base.clone();
            values[hour] = h;
            UnseenClock x = Probe.standing();
            String call = name + Arrays.toString(values);
            Probe.due(call, ask(x, name, values), want);
            Probe.dueSame(call, Probe.restAndFault(x), Probe.restAndFault(Probe.standing()));
        }
    }

    private static void refusals() throws Exception {
        firstMoment();
        bounds("Where a PERSON is in a MINUTE: X and 100 Y; NONE: not there (CALLED away, too). -2: there are none such.", "at", "PM", 0, 0);
        bounds("Whether a PERSON SEES a CLOCK in a MINUTE: 1, 0. -2: there are none such.", "sees", "PCM", 0, 0, 0);
        bounds("Whether he looks at it (PLAIN course): 1, 0; 2: that was OPEN (no). -2 likewise.", "looks", "PCM", 0, 0, 0);
        bounds("How many look at a CLOCK in a MINUTE (PLAIN course). -2: there are none such.", "eyes", "CM", 0, 0);
        bounds("What a CLOCK SHOWS as a MINUTE (0 .. minutes: the end) begins (PLAIN course). -2: there are none such.", "shows", "CE", 0, 0);
        bounds("2: of how many parts (over). -2 likewise, no such what.", "value", "CE3", 0, 0, 0);
        bounds("the first MINUTE in which it is not (2; NONE: none). -2: there are none such.", "still", "C3", 0, 0);
        bounds("How many looks are OPEN in the PLAIN course. -2: there is no SQUARE.", "open", "");
        bounds("NONE: there is none such. -2: there is no SQUARE.", "opens", "*", 0);
        bounds("the first MINUTE (0 .. minutes) as which begins n CLOCKS (1 .. 4) or more SHOW h (0 .. 59); NONE: none. -2: there are none such, no SQUARE.", "bell", "NH", 1, 0);
        bounds("COURSES: how many. -2: there is no SQUARE", "courses", "");
        bounds("In how many COURSES a CLOCK SHOWS h as a MINUTE begins. -2: there are none such", "among", "CE*", 0, 0, 11);
        nowhere(0, "among", 2, 0, 7, 0);
        bounds("-2: there is no such SLOT, no SQUARE", "agree", "L", 0);
        bounds("NONE: not the same in all, there are none. -2 likewise, none such; -6, -3 likewise.", "sure", "LCE", 0, 0, 0);
        bounds("NONE: not by all. -2 likewise, more; -6, -3 likewise.", "needs", "LCE", 0, 0, 0);
        bounds("What a PERSON KNOWS a CLOCK to SHOW as a MINUTE begins (IV); NONE: he does not. -2: there are none such", "knows", "PCE", 0, 0, 0);
        bounds("NONE: it is not. -2 likewise; -3 likewise.", "common", "BCE", 0, 0, 0);
        bounds("In how many COURSES SIGHT of a PERSON is as in the PLAIN one. -2: there is none such", "alike", "P", 0);
        bounds("else 0. -2: there are none such; -3 likewise.", "lie", "PCE*", 0, 0, 0, 11);
        nowhere(0, "lie", 3, 0, 0, 7, 0);
        bounds("The first PERSON (not he himself) who can show it; NONE: nobody can. -2, -3 likewise.", "shown", "PCE*", 0, 0, 0, 11);
        nowhere(1, "shown", 3, 0, 0, 7, 0);
        bounds("NONE: they do not. -2: there are none such, one twice; -3 likewise.", "both", "PxCE", 0, 1, 0, 0);
        bounds("NONE: they do not. -2: there are none such, one twice; -3 likewise.", "both", "xPCE", 1, 0, 0, 0);
        bounds("NONE: he never does. -2: there are none such; -3 likewise.", "learns", "PCE", 0, 0, 0);
        bounds("How many unlike SIGHTS a PERSON has in all COURSES. -2: there is none such", "sights", "P", 0);
        bounds("nobody being CALLED away. -2: there are none such, one twice.", "meets", "Px", 0, 1);
        bounds("nobody being CALLED away. -2: there are none such, one twice.", "meets", "xP", 1, 0);
        bounds("From how many CELLS without wall or clock a CLOCK is SEEN. -2: there is none such.", "spots", "C", 0);
        bounds("The first MINUTE (0 .. minutes) as which begins a CLOCK SHOWS h (PLAIN course); NONE: none. -2: there are none such.", "when", "C*", 0, 11);
        nowhere(NONE, "when", 1, 0, 0);
        bounds("How many unlike numbers a CLOCK SHOWS as MINUTES begin (the end, too). -2: there is none such.", "hours", "C", 0);
        bounds("if a PERSON were CALLED away, too. -2: there are none such.", "without", "PCE", 0, 0, 0);
        bounds("NONE: none do; -2: there are none such, no SQUARE.", "hush", "NHE2", 1, 11, 0, 0);
        bounds("1 if that changes something, else 0. -2: there is none such.", "call", "Pb", 0, 1);
        bounds("NONE: none do; -2: there are none such.", "away", "CE*2", 0, 0, 11, 0);
        nowhere(NONE, "away", 2, 0, 7, 0, 0);
        bounds("What a CLOCK SHOWS as a MINUTE begins, KEPT by n (0 .. 40). -2: there are none such.", "kept", "CKE", 0, 0, 0);
        bounds("The least n by which it SHOWS h then; NONE: by none. -2: there are none such.", "keep", "CE*", 0, 0, 11);
        nowhere(NONE, "keep", 2, 0, 7, 0);
        bounds("How many keepers that takes, if each keeps m (1 .. 40) MINUTES at most. NONE, -2 likewise.", "shifts", "CE*S", 0, 0, 11, 1);
        nowhere(NONE, "shifts", 2, 0, 7, 0, 1);
        bounds("The MINUTE of the last look of his then (0 ahead of any: NONE). NONE, -2 likewise.", "last", "CE*", 0, 0, 11);
        nowhere(NONE, "last", 2, 0, 7, 0);
        bounds("by which m of them (1 .. 4) or more SHOW h as a MINUTE begins; NONE: none. -2: there are none such, no SQUARE.", "all", "NE*", 1, 0, 11);
        nowhere(NONE, "all", 2, 1, 7, 0);
        bounds("by which it SHOWS h as a MINUTE begins, the least; NONE: by none. -2: there are none such.", "pace", "CE*", 0, 0, 11);
        nowhere(NONE, "pace", 2, 0, 7, 0);
        bounds("The pace of a CLOCK is this (0 .. 60) from now on: which it was. -2: there are none such.", "mends", "CA", 0, 0);
        bounds("On a day drawn from a seed (0 .. 2,000,000,000) (VI) what a CLOCK SHOWS as a MINUTE begins. -2: there are none such.", "day", "DCE", 0, 0, 0);
        bounds("Of n such days (1 .. 20) from seeds, the seed and 1, .., on how many it SHOWS h. -2 likewise.", "days", "DTCE*", 0, 1, 0, 0, 11);
        nowhere(0, "days", 4, 0, 20, 0, 7, 0);
    }

    /** What is asked for as MINUTE 0 begins is what was told, though nothing has been asked ahead, and though another SQUARE was asked. */
    private static void firstMoment() throws Exception {
        Probe.sentence("at first from;");
        String[] names = {"shows", "value", "without", "kept", "day", "knows", "common", "sure"};
        int[][] values = {{0, 0}, {0, 0, 0}, {0, 0, 0}, {0, 3, 0}, {1, 0, 0}, {0, 0, 0}, {1, 0, 0}, {0, 0, 0}};
        for (int i = 0; i < names.length; i++) {
            UnseenClock x = Probe.of(ONE);
            x.row(0, 0, 0);
            Probe.due(names[i] + " as MINUTE 0 begins", ask(x, names[i], values[i]), 7);
            Probe.square(x, "square wide 3 long 3 minutes 5", "clock at 1 1 pace 1 over 1 shows 9 from 4", "person at 0 0 from 1");
            Probe.due(names[i] + " as MINUTE 0 of another SQUARE begins", ask(x, names[i], values[i]), 4);
        }
        String[] finding = {"away", "keep", "pace", "hush", "all", "bell", "when"};
        int[][] asked = {{0, 0, 7, 0}, {0, 0, 7}, {0, 0, 7}, {1, 7, 0, 0}, {1, 0, 7}, {1, 7}, {0, 7}};
        for (int i = 0; i < finding.length; i++) {
            UnseenClock x = Probe.of(ONE);
            Probe.due(finding[i] + " as MINUTE 0 begins", ask(x, finding[i], asked[i]), 0);
            Probe.square(x, "square wide 3 long 3 minutes 5", "clock at 1 1 pace 0 over 1 shows 9 from 4", "person at 0 0 from 1");
            Probe.due(finding[i] + " as MINUTE 0 of another SQUARE begins", ask(x, finding[i], asked[i]), NONE);
        }
    }

    // ---------------------------------------------------------------- the PLAIN course

    private static void plainCourse() {
        UnseenClock x = Probe.of(ONE);
        Probe.sentence("NONE: not there (CALLED away, too).");
        Probe.dueRow("at(0, ..)", new int[] {x.at(0, 0), x.at(0, 1), x.at(0, 3), x.at(0, 4)}, NONE, 0, 0, NONE);
        x.call(0, true);
        Probe.dueRow("at(0, ..), CALLED away", new int[] {x.at(0, 0), x.at(0, 1), x.at(0, 3), x.at(0, 4)}, NONE, NONE, NONE, NONE);
        Probe.sentence("Whether a PERSON SEES a CLOCK in a MINUTE: 1, 0.");
        Probe.dueRow("sees(0, 0, ..), CALLED away", new int[] {x.sees(0, 0, 0), x.sees(0, 0, 1), x.sees(0, 0, 3)}, 0, 0, 0);
        x.call(0, false);
        Probe.dueRow("sees(0, 0, ..)", new int[] {x.sees(0, 0, 0), x.sees(0, 0, 1), x.sees(0, 0, 3), x.sees(0, 0, 4)}, 0, 1, 1, 0);
        Probe.sentence("Whether he looks at it (PLAIN course): 1, 0; 2: that was OPEN (no).");
        Probe.dueRow("looks(0, 0, ..)", new int[] {x.looks(0, 0, 0), x.looks(0, 0, 1), x.looks(0, 0, 3), x.looks(0, 0, 4)}, 0, 1, 1, 0);
        UnseenClock open = selves(2, 5);
        Probe.dueRow("looks(0, 0, ..)", new int[] {open.looks(0, 0, 0), open.looks(0, 0, 1), open.looks(0, 0, 2)}, 2, 2, 0);
        Probe.dueRow("eyes(0, ..), OPEN ones are none", new int[] {open.eyes(0, 0), open.eyes(0, 1), open.eyes(0, 2)}, 0, 0, 0);
        Probe.sentence("How many look at a CLOCK in a MINUTE (PLAIN course).");
        Probe.dueRow("eyes(0, ..)", new int[] {x.eyes(0, 0), x.eyes(0, 1), x.eyes(0, 3), x.eyes(0, 4)}, 0, 1, 1, 0);
        StringBuilder crowd = new StringBuilder("square wide 3 long 3 minutes 5;clock at 1 1 pace 1 over 1 shows 9 from 0");
        String[] places = {"0 0", "1 0", "2 0", "0 1", "2 1", "0 2", "1 2", "2 2"};
        for (int i = 0; i < 8; i++) {
            crowd.append(";person at ").append(places[i]).append(" from 0;wait 1;look at 0 always;look at 0 always");
        }
        UnseenClock eight = Probe.of(crowd.toString());
        Probe.dueRow("eyes(0, ..) of eight, twice each", new int[] {eight.eyes(0, 0), eight.eyes(0, 1), eight.eyes(0, 2)}, 8, 8, 0);
        Probe.sentence("What a CLOCK SHOWS as a MINUTE (0 .. minutes: the end) begins (PLAIN course).");
        Probe.dueRow("shows(0, ..)", new int[] {x.shows(0, 0), x.shows(0, 1), x.shows(0, 2), x.shows(0, 3), x.shows(0, 4), x.shows(0, 5)}, 7, 8, 8, 8, 8, 0);
        Probe.sentence("VALUE then, what 0: its whole part, 1: what is above that, in parts, 2: of how many parts (over).");
        Probe.dueRow("value(0, 5, ..)", new int[] {x.value(0, 5, 0), x.value(0, 5, 1), x.value(0, 5, 2)}, 9, 0, 1);
        UnseenClock parts = Probe.of(ALONE, "clock at 1 1 pace 59 over 12 shows 60 from 59", "clock at 0 0 pace 60 over 1 shows 2 from 1", "clock at 0 1 pace 1 over 12 shows 2 from 0");
        Probe.dueRow("value(0, 0, ..)", new int[] {parts.value(0, 0, 0), parts.value(0, 0, 1), parts.value(0, 0, 2)}, 59, 0, 12);
        Probe.dueRow("value(0, 40, ..)", new int[] {parts.value(0, 40, 0), parts.value(0, 40, 1), parts.value(0, 40, 2)}, 255, 8, 12);
        Probe.dueRow("value(1, 40, ..)", new int[] {parts.value(1, 40, 0), parts.value(1, 40, 1), parts.value(1, 40, 2)}, 2401, 0, 1);
        Probe.dueRow("value(2, 11, ..)", new int[] {parts.value(2, 11, 0), parts.value(2, 11, 1)}, 0, 11);
        Probe.dueRow("value(2, 12, ..)", new int[] {parts.value(2, 12, 0), parts.value(2, 12, 1)}, 1, 0);
        Probe.sentence("In how many MINUTES a CLOCK is looked at (what 0), the most of these in a row (1), the first MINUTE in which it is not (2; NONE: none).");
        Probe.dueRow("still(0, ..)", new int[] {x.still(0, 0), x.still(0, 1), x.still(0, 2)}, 3, 3, 0);
        UnseenClock never = alone();
        Probe.dueRow("still(0, ..), never looked at", new int[] {never.still(0, 0), never.still(0, 1), never.still(0, 2)}, 0, 0, 0);
        UnseenClock ever = Probe.of(ALONE, GOING, "person at 0 0 from 0", "wait 39", "look at 0 always");
        Probe.dueRow("still(0, ..), ever looked at", new int[] {ever.still(0, 0), ever.still(0, 1), ever.still(0, 2)}, 40, 40, NONE);
        UnseenClock last = Probe.of(ALONE, GOING, "person at 0 0 from 0", "wait 38", "look at 0 always");
        Probe.dueRow("still(0, ..), but in the last", new int[] {last.still(0, 0), last.still(0, 1), last.still(0, 2)}, 39, 39, 39);
        UnseenClock first = Probe.of(ALONE, GOING, "person at 0 0 from 1", "wait 40", "look at 0 each 3 after 0", "look at 0 each 3 after 1");
        Probe.dueRow("still(0, ..), two in a row", new int[] {first.still(0, 0), first.still(0, 1), first.still(0, 2)}, 26, 2, 0);
        opens();
        bells();
    }

    private static void opens() {
        Probe.sentence("OPEN look i: 100 times the MINUTE, 10 times the PERSON and the CLOCK; NONE: there is none such.");
        UnseenClock open = selves(2, 5);
        Probe.dueRow("opens(..)", new int[] {open.opens(0), open.opens(1), open.opens(2), open.opens(-1), open.opens(LOWEST), open.opens(HIGHEST)}, 0, 100, NONE, NONE, NONE, NONE);
        Probe.due("opens(0), none at all", alone().opens(0), NONE);
        Probe.due("open(), none at all", alone().open(), 0);
        StringBuilder crowd = new StringBuilder("square wide 3 long 3 minutes 40");
        for (String place : new String[] {"0 0", "2 0", "0 2", "2 2"}) {
            crowd.append(";clock at ").append(place).append(" pace 1 over 1 shows 9 from 0");
        }
        for (int i = 0; i < 8; i++) {
            crowd.append(";person at 1 1 from 0;wait 40");
            for (int clock = 3; clock >= 0; clock--) {
                crowd.append(";look at ").append(clock).append(" with ").append(i);
            }
        }
        UnseenClock most = Probe.of(crowd.toString());
        Probe.due("open(), the most that there can be", most.open(), 1280);
        Probe.dueRow("opens(..)", new int[] {most.opens(0), most.opens(3), most.opens(4), most.opens(31), most.opens(32), most.opens(1279), most.opens(1280)}, 0, 3, 10, 73, 100, 3973, NONE);
        Probe.due("courses()", most.courses(), -3);
    }

    private static void bells() {
        Probe.sentence("the first MINUTE (0 .. minutes) as which begins n CLOCKS (1 .. 4) or more SHOW h (0 .. 59); NONE: none.");
        UnseenClock four = Probe.of("square wide 3 long 3 minutes 5", "clock at 0 0 pace 1 over 1 shows 60 from 55", "clock at 2 0 pace 2 over 1 shows 60 from 50",
            "clock at 0 2 pace 3 over 1 shows 60 from 45", "clock at 2 2 pace 4 over 1 shows 60 from 40");
        Probe.dueRow("bell(.., 0) at the end", new int[] {four.bell(1, 0), four.bell(4, 0)}, 5, 5);
        Probe.dueRow("bell(.., 59)", new int[] {four.bell(1, 59), four.bell(2, 59)}, 4, NONE);
        Probe.dueRow("bell(.., 55) at the beginning", new int[] {four.bell(1, 55), four.bell(2, 55)}, 0, NONE);
        UnseenClock two = Probe.of(ALONE, "clock at 0 0 pace 0 over 1 shows 60 from 0", "clock at 1 1 pace 0 over 1 shows 60 from 0");
        Probe.dueRow("bell(.., 0) of two", new int[] {two.bell(1, 0), two.bell(2, 0), two.bell(3, 0), two.bell(4, 0)}, 0, 0, NONE, NONE);
        Probe.due("bell(1, 0) without a CLOCK", Probe.of(ALONE).bell(1, 0), NONE);
        Probe.sentence("The first MINUTE (0 .. minutes) as which begins a CLOCK SHOWS h (PLAIN course); NONE: none.");
        Probe.dueRow("when(0, ..)", new int[] {four.when(0, 55), four.when(0, 56), four.when(0, 0), four.when(0, 1), four.when(0, 54)}, 0, 1, 5, NONE, NONE);
        Probe.due("when(0, 40) at the end", alone().when(0, 40), 40);
        Probe.sentence("How many unlike numbers a CLOCK SHOWS as MINUTES begin (the end, too).");
        Probe.due("hours(0)", alone().hours(0), 41);
        Probe.due("hours(0) with a pace of 0", two.hours(0), 1);
        Probe.due("hours(0) with a pace of 0, from 5", Probe.of(ALONE, "clock at 0 0 pace 0 over 1 shows 60 from 5").hours(0), 1);
        Probe.due("hours(0) with a pace of 0, from 59", Probe.of(ALONE, "clock at 0 0 pace 0 over 1 shows 60 from 59").hours(0), 1);
        Probe.due("hours(0) of 2 that there are", Probe.of(ALONE, "clock at 0 0 pace 1 over 1 shows 2 from 1").hours(0), 2);
        Probe.due("hours(0), 59 and 0 and the end", Probe.of("square wide 2 long 2 minutes 5", "clock at 0 0 pace 1 over 5 shows 60 from 59").hours(0), 2);
    }

    // ---------------------------------------------------------------- COURSES

    /** 129 of them: by yes in MINUTE 0 all else is SETTLED, by no each of seven looks more is OPEN. */
    private static UnseenClock oneMore() {
        return Probe.of("square wide 3 long 3 minutes 12", "clock at 1 1 pace 1 over 1 shows 60 from 0", "person at 0 0 from 0", "wait 7",
            "look at 0 with 0", "look at 0 seeing 0 is 0", "person at 2 1 from 0");
    }

    private static void courses() throws Exception {
        Probe.sentence("-3: there would be more than 128.");
        Probe.due("courses() of 7 OPEN looks", selves(7, 12).courses(), 128);
        Probe.due("courses() of 8 OPEN looks", selves(8, 12).courses(), -3);
        Probe.due("courses(), one more than 128", oneMore().courses(), -3);
        Probe.due("open()", oneMore().open(), 8);
        Probe.due("courses() without OPEN looks", alone().courses(), 1);
        Probe.due("courses() of 40 OPEN looks", selves(40, 40).courses(), -3);
        Probe.sentence("-2: there are none such; -3 likewise.");
        String[] names = {"among", "knows", "common", "alike", "lie", "shown", "both", "learns", "sights", "agree", "sure", "needs"};
        int[][] values = {{0, 0, 0}, {0, 0, 0}, {0, 0, 0}, {0}, {0, 0, 0, 0}, {0, 0, 0, 0}, {0, 1, 0, 0}, {0, 0, 0}, {0}, {0}, {0, 0, 0}, {0, 0, 0}};
        int[] due = {128, 0, 0, 1, 1, NONE, 0, 0, 128, 128, 0, 0};
        for (int i = 0; i < names.length; i++) {
            UnseenClock fits = selves(7, 12);
            fits.row(0, 0, 3);
            Probe.due(names[i] + " of 128", ask(fits, names[i], values[i]), due[i]);
            UnseenClock over = oneMore();
            over.row(0, 0, 3);
            Probe.due(names[i] + " of 129", ask(over, names[i], values[i]), -3);
            Probe.due("eyes(0, 0), which asks for no COURSES", over.eyes(0, 0), 0);
            int[] wrong = values[i].clone();
            wrong[0] = 9;
            Probe.due(names[i] + " of 129, none such", ask(over, names[i], wrong), -2);
            over.call(0, true);
            Probe.due(names[i] + " behind a CALL", ask(over, names[i], values[i]), names[i].equals("common") || names[i].equals("knows") || names[i].equals("both")
                || names[i].equals("learns") || names[i].equals("sure") || names[i].equals("needs") ? 0 : names[i].equals("shown") ? NONE : 1);
        }
    }

    // ---------------------------------------------------------------- SIGHTINGS

    /** Four COURSES: no no, no yes, yes no, yes yes: it SHOWS in MINUTE 1: 1 1 0 0, in 2: 2 1 1 0, in 5: 5 4 4 3. */
    private static UnseenClock fourCourses(long... sightings) {
        UnseenClock x = selves(2, 5);
        Probe.write(x, 0, 0, sightings);
        return x;
    }

    private static long[] repeated(int n) {
        long[] row = new long[3 * n];
        for (int i = 0; i < n; i++) {
            row[3 * i + 1] = 2;
            row[3 * i + 2] = 1;
        }
        return row;
    }

    private static void sightings() {
        Probe.sentence("SIGHTINGS: a SLOT's row, three numbers each (a CLOCK, a MINUTE 0 .. minutes, what it SHOWED): in how many COURSES all are so.");
        Probe.due("agree(0) of no SIGHTINGS", fourCourses().agree(0), 4);
        Probe.due("agree(0), MINUTE 0", fourCourses(0, 0, 0).agree(0), 4);
        Probe.due("agree(0)", fourCourses(0, 1, 1).agree(0), 2);
        Probe.due("agree(0), at the end", fourCourses(0, 5, 3).agree(0), 1);
        Probe.due("agree(0), in none", fourCourses(0, 5, 2).agree(0), 0);
        Probe.due("agree(0), both", fourCourses(0, 1, 1, 0, 2, 1).agree(0), 1);
        Probe.due("agree(0), both, but never at once", fourCourses(0, 1, 0, 0, 2, 2).agree(0), 0);
        Probe.due("agree(0) of 20", fourCourses(repeated(20)).agree(0), 2);
        long[] nineteen = repeated(20);
        nineteen[59] = 2;
        Probe.due("agree(0) of 20, the last is another", fourCourses(nineteen).agree(0), 0);
        Probe.sentence("a number is not so (asked last), not three each; -6: it has nothing; -3 likewise.");
        Probe.due("MINUTE 6 of 5", fourCourses(0, 6, 0).agree(0), -2);
        Probe.due("MINUTE -1", fourCourses(0, -1, 0).agree(0), -2);
        Probe.due("CLOCK 1 of 1", fourCourses(1, 0, 0).agree(0), -2);
        Probe.due("CLOCK -1", fourCourses(-1, 0, 0).agree(0), -2);
        Probe.due("the second is not so", fourCourses(0, 0, 0, 0, 6, 0).agree(0), -2);
        for (int n = 0; n <= 7; n++) {
            Probe.due("agree(0) of " + n + " numbers", fourCourses(new long[n]).agree(0), n % 3 == 0 ? 4 : -2);
        }
        Probe.due("agree(0) of 59 numbers", fourCourses(new long[59]).agree(0), -2);
        UnseenClock x = fourCourses();
        for (int slot = 1; slot < 4; slot++) {
            Probe.due("agree(" + slot + ") of nothing", x.agree(slot), -6);
            Probe.due("sure(" + slot + ", 0, 0) of nothing", x.sure(slot, 0, 0), -6);
            Probe.due("needs(" + slot + ", 0, 0) of nothing", x.needs(slot, 0, 0), -6);
        }
        wideNumbers();
        order();
        Probe.sentence("What a CLOCK SHOWS as a MINUTE begins in all of these; NONE: not the same in all, there are none.");
        Probe.due("sure(0, 0, 0)", fourCourses().sure(0, 0, 0), 0);
        Probe.due("sure(0, 0, 5)", fourCourses().sure(0, 0, 5), NONE);
        Probe.due("sure(0, 0, 5) of two", fourCourses(0, 2, 1).sure(0, 0, 5), 4);
        Probe.due("sure(0, 0, 1) of two", fourCourses(0, 2, 1).sure(0, 0, 1), NONE);
        Probe.due("sure(0, 0, 1) of one", fourCourses(0, 1, 1, 0, 2, 1).sure(0, 0, 1), 1);
        Probe.due("sure(0, 0, 0) of none", fourCourses(0, 5, 2).sure(0, 0, 0), NONE);
        Probe.due("sure(0, 0, 5) of 20", fourCourses(repeated(20)).sure(0, 0, 5), 4);
        Probe.sentence("The fewest of these SIGHTINGS (eight at most are told) by which alone that would be sure; NONE: not by all.");
        Probe.due("needs(0, 0, 0): none", fourCourses(0, 1, 1, 0, 2, 1).needs(0, 0, 0), 0);
        Probe.due("needs(0, 0, 5): the second", fourCourses(0, 1, 1, 0, 2, 1).needs(0, 0, 5), 1);
        Probe.due("needs(0, 0, 1): the first", fourCourses(0, 1, 1, 0, 2, 1).needs(0, 0, 1), 1);
        Probe.due("needs(0, 0, 2): the second", fourCourses(0, 1, 0, 0, 3, 1).needs(0, 0, 2), 1);
        Probe.due("needs(0, 0, 1) by none of these", fourCourses(0, 2, 1).needs(0, 0, 1), NONE);
        Probe.due("needs(0, 0, 0), all are so in no course", fourCourses(0, 5, 2).needs(0, 0, 0), NONE);
        Probe.due("needs(0, 0, 5) without SIGHTINGS", fourCourses().needs(0, 0, 5), NONE);
        Probe.due("needs(0, 0, 5) of eight", fourCourses(repeated(8)).needs(0, 0, 5), 1);
        Probe.due("needs(0, 0, 5) of nine", fourCourses(repeated(9)).needs(0, 0, 5), -2);
        Probe.due("needs(0, 0, 5) of twenty", fourCourses(repeated(20)).needs(0, 0, 5), -2);
        Probe.due("needs(0, 0, 5) of 25 numbers", fourCourses(new long[25]).needs(0, 0, 5), -2);
        eightNeeded();
    }

    private static void eightNeeded() {
        UnseenClock x = selves(7, 12);
        Probe.write(x, 0, 0, 0, 1, 0, 0, 2, 1, 0, 3, 1, 0, 4, 2, 0, 5, 2, 0, 6, 3, 0, 7, 3, 0, 12, 8);
        Probe.dueRow("needs(0, 0, ..) of eight", new int[] {x.needs(0, 0, 0), x.needs(0, 0, 1), x.needs(0, 0, 6), x.needs(0, 0, 7), x.needs(0, 0, 12)}, 0, 1, 1, 1, 1);
        // three OPEN looks, in MINUTES 0, 1 and 2: by the first SIGHTING the first is no, by the second just one of them is
        UnseenClock three = Probe.of("square wide 9 long 3 minutes 5", "clock at 1 1 pace 1 over 1 shows 60 from 0", "clock at 7 1 pace 1 over 1 shows 60 from 0", "wall at 4 1",
            "person at 0 0 from 0", "look at 0 with 0", "person at 0 1 from 1", "look at 0 with 1", "person at 0 2 from 2", "look at 0 with 2");
        Probe.write(three, 0, 0, 0, 1, 1, 0, 5, 3);
        Probe.due("agree(0)", three.agree(0), 1);
        Probe.due("needs(0, 0, 2): both", three.needs(0, 0, 2), 2);
        Probe.due("needs(0, 0, 4): the second", three.needs(0, 0, 4), 1);
        Probe.due("needs(0, 1, 5): none, the other CLOCK goes on ever", three.needs(0, 1, 5), 0);
    }

    /** A number of eight bytes is not cut to four when it is asked for. */
    private static void wideNumbers() {
        long wrap = 1L << 32;
        UnseenClock x = selves(2, 5);
        Probe.write(x, 0, 3, 0, 2, 1);
        Probe.due("agree(0)", x.agree(0), 2);
        x.write(0, 0, wrap);
        Probe.due("agree(0), CLOCK 4294967296", x.agree(0), -2);
        x.write(0, 0, 0);
        x.write(0, 1, wrap + 2);
        Probe.due("agree(0), MINUTE 4294967298", x.agree(0), -2);
        x.write(0, 1, 2);
        x.write(0, 2, wrap + 1);
        Probe.due("agree(0), it SHOWED 4294967297", x.agree(0), 0);
        x.write(0, 2, 64 + 1);
        Probe.due("agree(0), it SHOWED 65", x.agree(0), 0);
        x.write(0, 2, -1);
        Probe.due("agree(0), it SHOWED -1", x.agree(0), 0);
        x.write(0, 2, Long.MIN_VALUE + 1);
        Probe.due("agree(0), it SHOWED the lowest of all and 1", x.agree(0), 0);
    }

    private static void order() {
        UnseenClock over = oneMore();
        Probe.write(over, 0, 0, 9, 9, 9);
        Probe.due("agree(0): -3 ahead of a number that is not so", over.agree(0), -3);
        Probe.due("sure(0, 0, 0)", over.sure(0, 0, 0), -3);
        Probe.due("needs(0, 0, 0)", over.needs(0, 0, 0), -3);
        over.row(0, 0, 4);
        Probe.due("agree(0): not three each ahead of -3", over.agree(0), -2);
        over.row(0, 0, 27);
        Probe.due("needs(0, 0, 0): more ahead of -3", over.needs(0, 0, 0), -2);
        Probe.due("agree(1): nothing ahead of -3", over.agree(1), -6);
        Probe.due("sure(1, 1, 0): none such ahead of nothing", over.sure(1, 1, 0), -2);
        UnseenClock none = new UnseenClock();
        Probe.due("agree(1): no SQUARE ahead of nothing", none.agree(1), -2);
        none.row(1, 0, 3);
        Probe.due("agree(1): no SQUARE", none.agree(1), -2);
    }

    // ---------------------------------------------------------------- what who knows

    private static void knowledge() {
        UnseenClock x = Probe.of(WITH);
        Probe.sentence("What a PERSON KNOWS a CLOCK to SHOW as a MINUTE begins (IV); NONE: he does not.");
        Probe.dueRow("knows(.., 0, 5)", new int[] {x.knows(0, 0, 5), x.knows(1, 0, 5), x.knows(2, 0, 5)}, 5, 5, NONE);
        Probe.dueRow("knows(2, 0, ..)", new int[] {x.knows(2, 0, 0), x.knows(2, 0, 1)}, 0, NONE);
        Probe.sentence("What is COMMON to a set of PEOPLE (bits; nobody: what is so in the PLAIN course) of that (IV); NONE: it is not.");
        Probe.dueRow("common(.., 0, 5)", new int[] {x.common(0, 0, 5), x.common(1, 0, 5), x.common(3, 0, 5), x.common(4, 0, 5), x.common(7, 0, 5)}, 5, 5, 5, NONE, NONE);
        Probe.dueRow("common(.., 0, 0)", new int[] {x.common(4, 0, 0), x.common(7, 0, 0), x.common(8, 0, 0)}, 0, 0, -2);
        StringBuilder all = new StringBuilder("square wide 3 long 3 minutes 5;clock at 1 1 pace 1 over 1 shows 9 from 0");
        for (int i = 0; i < 8; i++) {
            all.append(";person at 0 0 from 0;look at 0 with 0");
        }
        UnseenClock eight = Probe.of(all.toString());
        Probe.dueRow("common(.., 0, 5) of eight", new int[] {eight.common(255, 0, 5), eight.common(128, 0, 5), eight.common(256, 0, 5), eight.common(LOWEST, 0, 5)}, 5, 5, -2, -2);
        Probe.due("common(1, 0, 0) without PEOPLE", alone().common(1, 0, 0), -2);
        Probe.due("common(0, 0, 40) without PEOPLE", alone().common(0, 0, 40), 40);
        Probe.sentence("In how many COURSES SIGHT of a PERSON is as in the PLAIN one.");
        Probe.dueRow("alike(..)", new int[] {x.alike(0), x.alike(2)}, 1, 2);
        Probe.sentence("1, if for each other PERSON there is some COURSE with his SIGHT as in the PLAIN one in which it did; else 0.");
        Probe.dueRow("lie(0, 0, 5, ..)", new int[] {x.lie(0, 0, 5, 5), x.lie(0, 0, 5, 4), x.lie(0, 0, 5, 3)}, 1, 0, 0);
        UnseenClock two = selves(2, 5);
        Probe.dueRow("lie(0, 0, 5, ..), the other saw nothing", new int[] {two.lie(0, 0, 5, 5), two.lie(0, 0, 5, 3), two.lie(0, 0, 5, 2), two.lie(0, 0, 5, 6)}, 1, 1, 0, 0);
        Probe.dueRow("lie(1, 0, 5, ..), the other saw it", new int[] {two.lie(1, 0, 5, 5), two.lie(1, 0, 5, 4)}, 1, 0);
        UnseenClock only = Probe.of(ONE);
        Probe.dueRow("lie(0, 0, 5, ..): there is nobody else", new int[] {only.lie(0, 0, 5, 0), only.lie(0, 0, 5, 1), only.lie(0, 0, 5, 99)}, 1, 1, 1);
        Probe.sentence("The first PERSON (not he himself) who can show it; NONE: nobody can.");
        Probe.dueRow("shown(.., 0, 5, 4)", new int[] {x.shown(0, 0, 5, 4), x.shown(1, 0, 5, 4), x.shown(2, 0, 5, 4)}, 1, 0, 0);
        Probe.dueRow("shown(0, 0, 5, ..)", new int[] {x.shown(0, 0, 5, 5), x.shown(0, 0, 5, 3), two.shown(0, 0, 5, 3), two.shown(0, 0, 5, 2)}, NONE, 1, NONE, 1);
        Probe.due("shown(0, 0, 5, 99): there is nobody else", only.shown(0, 0, 5, 99), NONE);
        Probe.sentence("What two PEOPLE KNOW together (all COURSES in which the SIGHT of both is as in the PLAIN one) that a CLOCK SHOWS as a MINUTE begins; NONE: they do not.");
        Probe.dueRow("both(..)", new int[] {x.both(0, 2, 0, 5), x.both(2, 0, 0, 5), x.both(2, 1, 0, 5)}, 5, 5, 5);
        UnseenClock blind = Probe.of("square wide 3 long 3 minutes 5", "clock at 1 1 pace 1 over 1 shows 9 from 0", "person at 0 0 from 0", "look at 0 with 0", "person at 2 1 from 0", "person at 2 1 from 0");
        Probe.dueRow("both(1, 2, 0, ..)", new int[] {blind.both(1, 2, 0, 0), blind.both(1, 2, 0, 1), blind.both(0, 2, 0, 1)}, 0, NONE, 1);
        Probe.sentence("-2: there are none such, one twice; -3 likewise.");
        for (int person = 0; person < 3; person++) {
            int who = person;
            Probe.leaves(-2, "both(" + who + ", " + who + ", 0, 0)", y -> y.both(who, who, 0, 0));
            Probe.leaves(-2, "meets(" + who + ", " + who + ")", y -> y.meets(who, who));
        }
        learning();
    }

    private static void learning() {
        Probe.sentence("LEARNS: the least n (0 .. minutes) so that by his SIGHT in MINUTES 0 .. n less 1 alone a PERSON KNOWS what a CLOCK SHOWS as a MINUTE begins; NONE: he never does.");
        UnseenClock x = Probe.of(WITH);
        Probe.dueRow("learns(0, 0, ..)", new int[] {x.learns(0, 0, 0), x.learns(0, 0, 1), x.learns(0, 0, 5)}, 0, 1, 1);
        Probe.dueRow("learns(2, 0, ..)", new int[] {x.learns(2, 0, 0), x.learns(2, 0, 1), x.learns(2, 0, 5)}, 0, NONE, NONE);
        UnseenClock late = Probe.of("square wide 3 long 3 minutes 5", "clock at 1 1 pace 1 over 1 shows 9 from 0", "person at 0 0 from 0", "look at 0 with 0", "person at 2 1 from 4", "look at 0 always");
        Probe.dueRow("learns(1, 0, ..): in the last MINUTE", new int[] {late.learns(1, 0, 0), late.learns(1, 0, 1), late.learns(1, 0, 5)}, 0, 5, 5);
        Probe.dueRow("learns(0, 0, ..): in the first MINUTE", new int[] {late.learns(0, 0, 1), late.learns(0, 0, 5)}, 1, 1);
        UnseenClock self = selves(3, 5);
        Probe.dueRow("learns(0, 0, ..)", new int[] {self.learns(0, 0, 0), self.learns(0, 0, 1), self.learns(0, 0, 2), self.learns(0, 0, 3), self.learns(0, 0, 5)}, 0, 1, 2, 3, 3);
        Probe.sentence("How many unlike SIGHTS a PERSON has in all COURSES.");
        Probe.dueRow("sights(..)", new int[] {self.sights(0), self.sights(1), x.sights(2), selves(7, 12).sights(0)}, 8, 1, 1, 128);
    }

    // ---------------------------------------------------------------- ways

    private static void paths() {
        Probe.sentence("In how many MINUTES two PEOPLE are on one CELL or on CELLS side by side (slanting, too), nobody being CALLED away.");
        UnseenClock x = Probe.of("square wide 12 long 12 minutes 13", "person at 5 5 from 0", "wait 12", "person at 5 0 from 0", "go south 11", "wait 1", "person at 0 3 from 0", "go east 12",
            "person at 4 4 from 12", "person at 11 11 from 0", "wait 12", "person at 0 0 from 0");
        Probe.due("meets(0, 1): 4, 5 and 6 in its column", x.meets(0, 1), 3);
        Probe.due("meets(0, 2): two rows off", x.meets(0, 2), 0);
        Probe.due("meets(0, 3): slanting, in the last MINUTE", x.meets(0, 3), 1);
        Probe.due("meets(1, 4)", x.meets(1, 4), 0);
        for (int[] cell : new int[][] {{5, 5}, {0, 0}, {11, 11}, {0, 11}, {11, 0}, {0, 1}, {11, 1}}) {
            for (int i = 0; i < 144; i++) {
                int across = i % 12;
                int along = i / 12;
                boolean near = Math.abs(across - cell[0]) < 2 && Math.abs(along - cell[1]) < 2;
                UnseenClock two = Probe.of("square wide 12 long 12 minutes 5", "person at " + cell[0] + " " + cell[1] + " from 0", "person at " + across + " " + along + " from 0");
                Probe.due("meets(0, 1), at " + cell[0] + " " + cell[1] + " and " + across + " " + along, two.meets(0, 1), near ? 1 : 0);
            }
        }
        Probe.due("meets(0, 5)", x.meets(0, 5), 0);
        Probe.due("meets(4, 5), both corners", x.meets(4, 5), 0);
        x.call(0, true);
        x.call(1, true);
        Probe.due("meets(0, 1), both CALLED away", x.meets(0, 1), 3);
        UnseenClock ever = Probe.of(ALONE, "person at 0 0 from 0", "wait 39", "person at 1 1 from 0", "wait 40", "person at 0 0 from 39");
        Probe.dueRow("meets(..)", new int[] {ever.meets(0, 1), ever.meets(0, 2), ever.meets(2, 1)}, 40, 1, 1);
        Probe.sentence("From how many CELLS without wall or clock a CLOCK is SEEN.");
        Probe.due("spots(0) in the midst", Probe.of("square wide 12 long 12 minutes 5", "clock at 5 5 pace 1 over 1 shows 9 from 0").spots(0), 43);
        Probe.due("spots(0) in a corner", Probe.of("square wide 12 long 12 minutes 5", "clock at 11 11 pace 1 over 1 shows 9 from 0").spots(0), 33);
        Probe.due("spots(0) of the least", alone().spots(0), 3);
        UnseenClock shut = Probe.of("square wide 3 long 2 minutes 5", "clock at 0 0 pace 1 over 1 shows 9 from 0", "wall at 1 0", "wall at 0 1", "clock at 1 1 pace 1 over 1 shows 9 from 0");
        Probe.dueRow("spots(..), shut in", new int[] {shut.spots(0), shut.spots(1)}, 0, 2);
    }

    // ---------------------------------------------------------------- who is CALLED away

    private static void calledAway() {
        Probe.sentence("What a CLOCK would SHOW as a MINUTE begins, if a PERSON were CALLED away, too.");
        UnseenClock x = Probe.of(THREE);
        Probe.dueRow("without(.., 0, 5)", new int[] {x.shows(0, 5), x.without(0, 0, 5), x.without(1, 0, 5), x.without(2, 0, 5)}, 3, 3, 3, 4);
        Probe.dueRow("without(2, 0, ..)", new int[] {x.without(2, 0, 0), x.without(2, 0, 1), x.without(2, 0, 2)}, 0, 0, 1);
        x.call(0, true);
        Probe.dueRow("without(.., 0, 5), 0 being away", new int[] {x.without(0, 0, 5), x.without(1, 0, 5), x.without(2, 0, 5)}, 3, 4, 4);
        Probe.sentence("A PERSON is CALLED away (or is there again): 1 if that changes something, else 0.");
        Probe.dueRow("call(0, ..)", new int[] {x.call(0, true), x.call(0, false), x.call(0, false), x.call(0, true), x.count(8)}, 0, 1, 0, 1, 1);
        Probe.leaves(0, "call(2, true), he is away", y -> y.call(2, true));
        Probe.leaves(0, "call(0, false), he is there", y -> y.call(0, false));
        Probe.leaves(1, "call(0, true) and false again", y -> y.call(0, true) * y.call(0, false));
        Probe.sentence("FEWEST PEOPLE who are to be CALLED away (all others being there) so that a CLOCK SHOWS h as a MINUTE begins: how many (what 0), which (what 1: of several sets the least bits).");
        for (int i = 0; i < 2; i++) {
            // once with one who is away already, which is nothing to this
            Probe.dueRow("away(0, 5, 3, ..)", new int[] {x.away(0, 5, 3, 0), x.away(0, 5, 3, 1)}, 0, 0);
            Probe.dueRow("away(0, 5, 4, ..): one, not the two with less bits", new int[] {x.away(0, 5, 4, 0), x.away(0, 5, 4, 1)}, 1, 4);
            Probe.dueRow("away(0, 5, 5, ..): all", new int[] {x.away(0, 5, 5, 0), x.away(0, 5, 5, 1)}, 3, 7);
            Probe.dueRow("away(0, 1, 1, ..): two", new int[] {x.away(0, 1, 1, 0), x.away(0, 1, 1, 1)}, 2, 3);
            Probe.dueRow("away(0, 5, .., 0): none do", new int[] {x.away(0, 5, 2, 0), x.away(0, 5, 6, 0), x.away(0, 5, 6, 1), x.away(0, 0, 1, 0)}, NONE, NONE, NONE, NONE);
            Probe.dueRow("away(0, 0, 0, ..)", new int[] {x.away(0, 0, 0, 0), x.away(0, 0, 0, 1)}, 0, 0);
            x.call(0, false);
        }
        StringBuilder crowd = new StringBuilder("square wide 3 long 3 minutes 5;clock at 1 1 pace 1 over 1 shows 9 from 0");
        for (int i = 0; i < 8; i++) {
            crowd.append(";person at 0 0 from 0;look at 0 always");
        }
        UnseenClock eight = Probe.of(crowd.toString());
        Probe.dueRow("away(0, 5, 5, ..): all eight", new int[] {eight.away(0, 5, 5, 0), eight.away(0, 5, 5, 1), eight.hush(1, 5, 5, 0), eight.hush(1, 5, 5, 1)}, 8, 255, 8, 255);
        UnseenClock same = Probe.of("square wide 3 long 3 minutes 5", "clock at 1 1 pace 1 over 1 shows 9 from 0", "person at 0 0 from 0", "look at 0 always", "person at 0 0 from 1", "look at 0 always");
        Probe.dueRow("away(0, 5, 4, 1): of 1 and 2 the least", new int[] {same.away(0, 5, 4, 1), same.hush(1, 4, 5, 1)}, 1, 1);
        Probe.dueRow("without PEOPLE", new int[] {alone().away(0, 40, 40, 1), alone().away(0, 40, 41, 1), alone().hush(1, 40, 40, 1), alone().hush(1, 40, 39, 1)}, 0, NONE, 0, NONE);
        Probe.sentence("so that BELL (m CLOCKS 1 .. 4, h) is at a MINUTE (0 .. minutes) or ahead: how many (what 0), which (what 1: as away()). NONE: none do;");
        Probe.dueRow("hush(1, 3, .., 1)", new int[] {x.hush(1, 3, 5, 1), x.hush(1, 3, 4, 1), x.hush(1, 3, 3, 1), x.hush(1, 3, 2, 1)}, 0, 4, 7, NONE);
        Probe.dueRow("hush(1, 3, .., 0)", new int[] {x.hush(1, 3, 5, 0), x.hush(1, 3, 4, 0), x.hush(1, 3, 3, 0), x.hush(1, 3, 2, 0)}, 0, 1, 3, NONE);
        Probe.dueRow("hush(1, 1, ..): at the MINUTE or ahead", new int[] {x.hush(1, 1, 5, 1), x.hush(1, 1, 3, 1), x.hush(1, 1, 2, 1), x.hush(1, 1, 1, 1), x.hush(1, 1, 0, 1)}, 0, 0, 4, 3, NONE);
        Probe.dueRow("hush(.., 0, 0, 1)", new int[] {x.hush(1, 0, 0, 1), x.hush(2, 0, 0, 1), x.hush(4, 0, 0, 0)}, 0, NONE, NONE);
        UnseenClock four = Probe.of("square wide 3 long 3 minutes 5", "clock at 0 0 pace 1 over 1 shows 60 from 55", "clock at 2 0 pace 1 over 1 shows 60 from 55",
            "clock at 0 2 pace 1 over 1 shows 60 from 55", "clock at 2 2 pace 1 over 1 shows 60 from 55", "person at 1 1 from 4", "look at 3 always");
        Probe.dueRow("hush(.., 0, 5, 1)", new int[] {four.hush(3, 0, 5, 1), four.hush(4, 0, 5, 1), four.hush(4, 0, 4, 1), four.hush(4, 59, 5, 1), four.hush(4, 59, 4, 0)}, 0, 1, NONE, 0, 0);
    }

    // ---------------------------------------------------------------- keepers

    private static void keepers() {
        UnseenClock x = alone();
        UnseenClock one = Probe.of(ONE);
        Probe.sentence("What a CLOCK SHOWS as a MINUTE begins, KEPT by n (0 .. 40).");
        Probe.dueRow("kept(0, .., 40)", new int[] {x.kept(0, 0, 40), x.kept(0, 1, 40), x.kept(0, 39, 40), x.kept(0, 40, 40)}, 40, 39, 1, 0);
        Probe.dueRow("kept(0, 3, ..)", new int[] {x.kept(0, 3, 0), x.kept(0, 3, 3), x.kept(0, 3, 4)}, 0, 0, 1);
        Probe.dueRow("kept(0, .., 5), he keeps where nobody looks", new int[] {one.kept(0, 0, 5), one.kept(0, 1, 5), one.kept(0, 2, 5), one.kept(0, 3, 5), one.kept(0, 40, 5)}, 0, 8, 7, 7, 7);
        Probe.sentence("The least n by which it SHOWS h then; NONE: by none.");
        Probe.dueRow("keep(0, 40, ..)", new int[] {x.keep(0, 40, 40), x.keep(0, 40, 39), x.keep(0, 40, 0), x.keep(0, 40, 41)}, 0, 1, 40, NONE);
        Probe.dueRow("keep(0, 0, ..)", new int[] {x.keep(0, 0, 0), x.keep(0, 0, 1)}, 0, NONE);
        Probe.dueRow("keep(0, 1, ..)", new int[] {x.keep(0, 1, 1), x.keep(0, 1, 0), x.keep(0, 1, 2)}, 0, 1, NONE);
        Probe.dueRow("keep(0, 5, ..)", new int[] {one.keep(0, 5, 0), one.keep(0, 5, 8), one.keep(0, 5, 7), one.keep(0, 5, 6)}, 0, 1, 2, NONE);
        Probe.due("keep(0, 40, 1): of 39 and of 37 and so on the least", Probe.of(ALONE, "clock at 1 1 pace 1 over 1 shows 2 from 0").keep(0, 40, 1), 1);
        Probe.sentence("How many keepers that takes, if each keeps m (1 .. 40) MINUTES at most.");
        Probe.dueRow("shifts(0, 40, 0, ..)", new int[] {x.shifts(0, 40, 0, 1), x.shifts(0, 40, 0, 2), x.shifts(0, 40, 0, 20), x.shifts(0, 40, 0, 21), x.shifts(0, 40, 0, 39), x.shifts(0, 40, 0, 40)}, 40, 20, 2, 2, 2, 1);
        Probe.dueRow("shifts(0, 40, 39, ..)", new int[] {x.shifts(0, 40, 39, 1), x.shifts(0, 40, 39, 40)}, 1, 1);
        Probe.dueRow("shifts(0, 40, 40, ..): nobody", new int[] {x.shifts(0, 40, 40, 1), x.shifts(0, 40, 40, 40)}, 0, 0);
        Probe.dueRow("shifts(0, 40, 41, ..)", new int[] {x.shifts(0, 40, 41, 1), x.shifts(0, 40, 41, 0), x.shifts(0, 40, 41, 41)}, NONE, -2, -2);
        Probe.sentence("The MINUTE of the last look of his then (0 ahead of any: NONE).");
        Probe.dueRow("last(0, 40, ..)", new int[] {x.last(0, 40, 40), x.last(0, 40, 39), x.last(0, 40, 38), x.last(0, 40, 0), x.last(0, 40, 41)}, NONE, 0, 1, 39, NONE);
        Probe.dueRow("last(0, 5, ..)", new int[] {one.last(0, 5, 0), one.last(0, 5, 8), one.last(0, 5, 7), one.last(0, 5, 6)}, NONE, 0, 4, NONE);
        Probe.sentence("The least n, all CLOCKS being KEPT by as many, each by its own keeper, by which m of them (1 .. 4) or more SHOW h as a MINUTE begins; NONE: none.");
        UnseenClock four = Probe.of(ALONE, GOING, "clock at 0 0 pace 2 over 1 shows 60 from 0", "clock at 1 0 pace 3 over 1 shows 60 from 0", "clock at 0 1 pace 4 over 1 shows 60 from 0");
        Probe.dueRow("all(.., 40, 0)", new int[] {four.all(1, 40, 0), four.all(2, 40, 0), four.all(3, 40, 0), four.all(4, 40, 0)}, 0, 10, 40, 40);
        Probe.dueRow("all(.., 0, 0)", new int[] {four.all(4, 0, 0), four.all(1, 0, 1)}, 0, NONE);
        Probe.dueRow("all(.., 40, 40)", new int[] {four.all(1, 40, 40), four.all(2, 40, 40), four.all(3, 40, 40), four.all(1, 40, 59)}, 0, 0, NONE, NONE);
        Probe.dueRow("all(.., 40, 0) of one", new int[] {x.all(1, 40, 0), x.all(2, 40, 0), x.all(4, 40, 0), x.all(1, 40, 41)}, 40, NONE, NONE, NONE);
        Probe.due("all(1, 40, 0) without a CLOCK", Probe.of(ALONE).all(1, 40, 0), NONE);
    }

    // ---------------------------------------------------------------- paces, days

    private static void paces() {
        UnseenClock x = Probe.of("square wide 2 long 2 minutes 5", "clock at 1 1 pace 7 over 1 shows 60 from 0", "clock at 0 0 pace 1 over 12 shows 60 from 0");
        Probe.sentence("The pace (0 .. 60, over as it is) of a CLOCK, all else as told, by which it SHOWS h as a MINUTE begins, the least; NONE: by none.");
        Probe.dueRow("pace(0, 5, ..)", new int[] {x.pace(0, 5, 0), x.pace(0, 5, 5), x.pace(0, 5, 55), x.pace(0, 5, 1)}, 0, 1, 11, NONE);
        Probe.dueRow("pace(0, 1, ..)", new int[] {x.pace(0, 1, 0), x.pace(0, 1, 1), x.pace(0, 1, 59)}, 0, 1, 59);
        Probe.dueRow("pace(0, 0, ..)", new int[] {x.pace(0, 0, 0), x.pace(0, 0, 1)}, 0, NONE);
        Probe.dueRow("pace(1, 5, ..)", new int[] {x.pace(1, 5, 24), x.pace(1, 5, 25), x.pace(1, 5, 26)}, 58, 60, NONE);
        Probe.due("mends(0, 7): it is as it was", x.mends(0, 7), 7);
        Probe.sentence("The pace of a CLOCK is this (0 .. 60) from now on: which it was.");
        Probe.dueRow("mends(0, ..)", new int[] {x.mends(0, 60), x.shows(0, 5), x.value(0, 5, 0), x.mends(0, 0), x.shows(0, 5), x.value(0, 5, 0)}, 7, 0, 300, 60, 0, 0);
        Probe.dueRow("mends(0, ..)", new int[] {x.mends(0, 61), x.mends(0, -1), x.mends(0, 0), x.shows(1, 5), x.mends(1, 60), x.shows(1, 5)}, -2, -2, 0, 0, 1, 25);
        Probe.dueRow("asked ahead and behind", new int[] {x.shows(0, 5), x.among(0, 5, 0), x.mends(0, 1), x.shows(0, 5), x.among(0, 5, 0), x.among(0, 5, 5)}, 0, 1, 0, 5, 0, 1);
        UnseenClock back = Probe.of("square wide 2 long 2 minutes 5", "clock at 1 1 pace 7 over 1 shows 60 from 0");
        back.mends(0, 9);
        Probe.square(back, "square wide 2 long 2 minutes 5", "clock at 1 1 pace 8 over 1 shows 60 from 0");
        Probe.due("mends(0, 1) of another SQUARE", back.mends(0, 1), 8);
    }

    /** The draws of a day, with numbers of any size. */
    private static int draw(long seed, int which) {
        java.math.BigInteger x = java.math.BigInteger.valueOf(seed);
        for (int i = 0; i <= which; i++) {
            x = x.multiply(java.math.BigInteger.valueOf(1103515245)).add(java.math.BigInteger.valueOf(12345)).mod(java.math.BigInteger.valueOf(2147483648L));
        }
        return x.divide(java.math.BigInteger.valueOf(65536)).mod(java.math.BigInteger.valueOf(100)).intValue();
    }

    private static UnseenClock maybe(int n) {
        return Probe.of("square wide 3 long 3 minutes 5", "clock at 1 1 pace 1 over 1 shows 9 from 0", "person at 0 0 from 0", "look at 0 maybe " + n);
    }

    private static void days() {
        Probe.sentence("On a day drawn from a seed (0 .. 2,000,000,000) (VI) what a CLOCK SHOWS as a MINUTE begins.");
        for (int seed : new int[] {0, 1, 2, 65535, 65536, 1999999999, 2000000000}) {
            int n = draw(seed, 0);
            Probe.due("day(" + seed + ", 0, 1), maybe " + n, maybe(n).day(seed, 0, 1), 1);
            Probe.due("day(" + seed + ", 0, 1), maybe " + (n + 1), maybe(n + 1).day(seed, 0, 1), 0);
            Probe.due("day(" + seed + ", 0, 0)", maybe(n).day(seed, 0, 0), 0);
            Probe.due("day(" + seed + ", 0, 5)", maybe(n + 1).day(seed, 0, 5), 4);
            Probe.due("day(" + seed + ", 0, 5), maybe 0", maybe(0).day(seed, 0, 5), 5);
            Probe.due("day(" + seed + ", 0, 5), maybe 100", maybe(100).day(seed, 0, 5), 4);
        }
        Probe.due("shows(0, 5), maybe 100", maybe(100).shows(0, 5), 5);
        Probe.sentence("Of n such days (1 .. 20) from seeds, the seed and 1, .., on how many it SHOWS h.");
        for (int seed : new int[] {0, 77, 1999999981, 2000000000}) {
            int below = 0;
            for (int i = 0; i < 20; i++) {
                below += draw((long) seed + i, 0) < 50 ? 1 : 0;
            }
            Probe.due("days(" + seed + ", 20, 0, 1, 0)", maybe(50).days(seed, 20, 0, 1, 0), below);
            Probe.due("days(" + seed + ", 20, 0, 1, 1)", maybe(50).days(seed, 20, 0, 1, 1), 20 - below);
            Probe.due("days(" + seed + ", 1, 0, 1, 0)", maybe(50).days(seed, 1, 0, 1, 0), draw(seed, 0) < 50 ? 1 : 0);
        }
        Probe.due("days(0, 20, 0, 5, 4)", maybe(100).days(0, 20, 0, 5, 4), 20);
        Probe.due("days(0, 20, 0, 5, 5)", maybe(100).days(0, 20, 0, 5, 5), 0);
    }

    // ---------------------------------------------------------------- counts, IMAGES, SLOTS

    private static void counts() {
        Probe.sentence("0 wide, 1 long, 2 minutes, 3 CLOCKS, 4 PEOPLE, 5 walls, 6 LINES, 7 bytes of the TAPE, 8 PEOPLE who are CALLED away (bits), 9 SLOTS that have a row.");
        int[] due = {6, 5, 7, 2, 3, 1, 17, 31, 4, 3};
        for (int what = 0; what < 10; what++) {
            int which = what;
            Probe.leaves(due[what], "count(" + what + ")", y -> y.count(which));
        }
        UnseenClock x = new UnseenClock();
        for (int slot = 0; slot < 4; slot++) {
            Probe.due("count(9)", x.count(9), slot);
            x.row(slot, 3, 0);
        }
        Probe.due("count(9), all", x.count(9), 4);
        x.row(3, 0, 60);
        Probe.due("count(9), in place of another one", x.count(9), 4);
        StringBuilder crowd = new StringBuilder("square wide 3 long 3 minutes 5");
        for (int i = 0; i < 8; i++) {
            crowd.append(";person at 0 0 from 0");
        }
        UnseenClock eight = Probe.of(crowd.toString());
        for (int person = 7; person >= 0; person--) {
            eight.call(person, true);
            Probe.due("count(8)", eight.count(8), 256 - (1 << person));
        }
        Probe.sentence("NONE for others.");
        for (int what : new int[] {-1, 10, LOWEST, HIGHEST}) {
            Probe.leaves(NONE, "count(" + what + ")", y -> y.count(what));
            Probe.due("count(" + what + "), no SQUARE", new UnseenClock().count(what), NONE);
        }
    }

    private static void images() {
        Probe.sentence("IMAGE k (0 .. 2) keeps SQUARE, paces, who is CALLED away: 0. -2: no such k.");
        for (int k : new int[] {-1, 3, LOWEST, HIGHEST}) {
            Probe.leaves(-2, "image(" + k + ")", y -> y.image(k));
        }
        for (int k = 0; k < 3; k++) {
            UnseenClock x = Probe.standing();
            Probe.due("image(" + k + ")", x.image(k), 0);
            x.call(2, false);
            x.mends(0, 50);
            x.end(0);
            Probe.square(x, ALONE);
            for (int again = 0; again < 2; again++) {
                Probe.due("back(" + k + ")", x.back(k), 0);
                Probe.dueRow("as it was", new int[] {x.count(2), x.count(8), x.count(6), x.mends(0, 9), x.mends(1, 8), x.call(2, false), x.at(0, 6)}, 7, 4, 17, 2, 2, 1, 200);
            }
        }
        Probe.sentence("keeps SQUARE, paces, who is CALLED away");
        for (int k = 0; k < 3; k++) {
            wholeSquare(k);
        }
        Probe.sentence("These are as IMAGE k has them: 0. -2: no such k; -6: it has nothing.");
        for (int k : new int[] {-1, 3, LOWEST, HIGHEST}) {
            Probe.leaves(-2, "back(" + k + ")", y -> y.back(k));
        }
        Probe.leaves(-6, "back(2)", y -> y.back(2));
        for (int k = 0; k < 3; k++) {
            UnseenClock x = new UnseenClock();
            Probe.due("image(" + k + ")", x.image(k), 0);
            for (int other = 0; other < 3; other++) {
                Probe.due("back(" + other + ")", x.back(other), other == k ? 0 : -6);
            }
            Probe.square(x, ONE);
            Probe.put(x, "?");
            x.square();
            Probe.put(x, "??");
            x.row(1, 0, 5);
            Probe.due("back(" + k + ") to no SQUARE", x.back(k), 0);
            Probe.dueRow("no SQUARE, and what is in no IMAGE stays", new int[] {x.open(), x.count(6), x.count(7), x.count(9), x.fault(0), x.fault(1)}, -2, 0, 2, 1, 1, 0);
        }
        UnseenClock x = Probe.of(ONE);
        x.image(0);
        x.call(0, true);
        x.image(1);
        x.mends(0, 3);
        x.image(2);
        x.image(0);
        Probe.dueRow("three, the first in place of another", new int[] {x.back(1), x.count(8), x.shows(0, 5), x.back(2), x.shows(0, 5), x.back(0), x.shows(0, 5)}, 0, 1, 3, 0, 4, 0, 4);
    }

    private static final String ODD =
        "square wide 9 long 7 minutes 11;wall at 3 3;wall at 8 0;clock at 1 1 pace 5 over 3 shows 41 from 17;clock at 7 5 pace 7 over 4 shows 29 from 3;clock at 6 1 pace 1 over 1 shows 7 from 6;"
        + "person at 1 4 from 2;go north 2;wait 3;look at 0 each 3 after 1;look at 2 seeing 0 is 19;person at 7 1 from 0;go south 3;go west 5;look at 1 always;look at 2 with 2;"
        + "person at 6 5 from 1;wait 8;look at 1 unless 1;look at 2 with 1;look at 2 maybe 40";

    /** Others that lie in the same rows: as large as can be, and unlike in each number. */
    private static String other(int by) {
        StringBuilder b = new StringBuilder("square wide 12 long 12 minutes " + (40 - by));
        for (int i = 0; i < 12; i++) {
            b.append(";wall at ").append(i).append(' ').append(i == 4 ? 11 : 2);
        }
        for (int i = 0; i < 4; i++) {
            b.append(";clock at ").append(3 + i + by).append(" 4 pace ").append(30 + i + by).append(" over ").append(8 + i + by).append(" shows ").append(50 + i + by).append(" from ").append(30 + i + by);
        }
        for (int i = 0; i < 8; i++) {
            b.append(";person at 4 ").append(i % 2 == 0 ? 3 : 5).append(" from ").append(by).append(";wait 12;go east 5;wait 1;go west 7;look at 3 always;look at ").append(by).append(" each 1 after 0;look at 1 unless 7;look at 2 maybe ").append(90 + by);
        }
        return b.toString();
    }

    /** What is asked of ODD, by calls that reach each number of it. */
    private static String askAll(UnseenClock x) {
        StringBuilder b = new StringBuilder();
        for (int what = 0; what < 7; what++) {
            b.append(x.count(what)).append(' ');
        }
        for (int person = 0; person < 3; person++) {
            b.append("| ");
            for (int minute = 0; minute < 11; minute++) {
                b.append(x.at(person, minute)).append(' ');
                for (int clock = 0; clock < 3; clock++) {
                    b.append(x.looks(person, clock, minute));
                }
                b.append(' ');
            }
        }
        for (int clock = 0; clock < 3; clock++) {
            b.append("| ").append(x.spots(clock)).append(' ').append(x.value(clock, 11, 0)).append(' ').append(x.value(clock, 11, 1)).append(' ').append(x.value(clock, 11, 2)).append(' ').append(x.shows(clock, 11)).append(' ')
                .append(x.shows(clock, 0)).append(' ').append(x.day(5, clock, 11)).append(' ').append(x.without(2, clock, 11)).append(' ').append(x.mends(clock, 9)).append(' ');
        }
        return b.append(x.courses()).toString();
    }

    private static void wholeSquare(int k) {
        String fresh = askAll(Probe.of(ODD));
        UnseenClock x = Probe.of(ODD);
        x.image(k);
        Probe.square(x, other(0));
        Probe.due("shows(3, 40)", x.shows(3, 0), 33);
        Probe.square(x, other(1));
        Probe.due("count(3)", x.count(3), 4);
        x.image((k + 1) % 3);
        Probe.due("back(" + k + ")", x.back(k), 0);
        Probe.dueSame("back(" + k + ")", askAll(x), fresh);
        Probe.square(x, other(0));
        Probe.due("back(" + k + ") once more", x.back(k), 0);
        Probe.dueSame("back(" + k + ") once more", askAll(x), fresh);
    }

    private static void rows() {
        Probe.sentence("SLOTS 0 .. 3 have rows of numbers of 1, 2, 4 or 8 bytes (WIDTH 0 .. 3), at most 60, or nothing.");
        for (int slot = 0; slot < 4; slot++) {
            for (int width = 0; width < 4; width++) {
                UnseenClock x = selves(2, 5);
                Probe.due("row(" + slot + ", " + width + ", 60)", x.row(slot, width, 60), 0);
                Probe.due("agree(" + slot + ")", x.agree(slot), 4);
                Probe.due("write(" + slot + ", 59, 1)", x.write(slot, 59, 1), 0);
                Probe.due("agree(" + slot + ")", x.agree(slot), 0);
                Probe.due("count(9)", x.count(9), 1);
            }
        }
        Probe.sentence("A SLOT (0 .. 3) has a row of n numbers of a WIDTH, all 0 (in place of another one): 0.");
        UnseenClock x = selves(2, 5);
        Probe.write(x, 0, 0, 0, 2, 1);
        Probe.dueRow("row(0, 0, 3)", new int[] {x.agree(0), x.row(0, 0, 3), x.agree(0)}, 2, 0, 4);
        Probe.dueRow("row(0, 0, 0)", new int[] {x.row(0, 0, 0), x.write(0, 0, 1), x.agree(0), x.count(9)}, 0, -7, 4, 1);
        Probe.dueRow("row(0, 0, 1)", new int[] {x.row(0, 0, 1), x.write(0, 0, 1), x.write(0, 1, 1), x.agree(0)}, 0, 0, -7, -2);
        Probe.write(x, 0, 0, 0, 2, 1, 0, 1, 1);
        Probe.dueRow("row(0, 3, 6): nothing of the other one is left", new int[] {x.row(0, 3, 3), x.row(0, 3, 6), x.agree(0)}, 0, 0, 4);
        Probe.sentence("-2: there is no such SLOT or WIDTH (0 .. 3), or n is above 60; -3, and the SLOT stays: n is below 0.");
        for (int slot : new int[] {-1, 4, LOWEST, HIGHEST}) {
            Probe.leaves(-2, "row(" + slot + ", 0, 3)", y -> y.row(slot, 0, 3));
            Probe.leaves(-2, "row(" + slot + ", 0, -1)", y -> y.row(slot, 0, -1));
        }
        for (int width : new int[] {-1, 4, LOWEST, HIGHEST}) {
            Probe.leaves(-2, "row(0, " + width + ", 3)", y -> y.row(0, width, 3));
            Probe.leaves(-2, "row(3, " + width + ", 3)", y -> y.row(3, width, 3));
        }
        for (int slot = 0; slot < 4; slot++) {
            int which = slot;
            for (int n : new int[] {61, HIGHEST}) {
                Probe.leaves(-2, "row(" + slot + ", 0, " + n + ")", y -> y.row(which, 0, n));
            }
            for (int n : new int[] {-1, LOWEST}) {
                Probe.leaves(-3, "row(" + slot + ", 0, " + n + ")", y -> y.row(which, 0, n));
            }
        }
        writes();
        pastes();
    }

    private static void writes() {
        Probe.sentence("Number i of the SLOT's row is v, cut to its WIDTH: 0.");
        for (int width = 0; width < 4; width++) {
            int bits = 8 << width;
            UnseenClock x = selves(2, 5);
            Probe.write(x, 0, width, 0, 2, 1);
            for (int bit = 7; bit < 64; bit++) {
                // a bit above the WIDTH is cut off; one within it makes the hour one that is never shown
                Probe.due("write(0, 2, ..)", x.write(0, 2, 1L | 1L << bit), 0);
                Probe.due("agree(0), WIDTH " + width + ", bit " + bit, x.agree(0), bit < bits ? 0 : 2);
            }
            for (long v : new long[] {Long.MIN_VALUE, Long.MAX_VALUE, -1}) {
                Probe.due("write(0, 0, " + v + ")", x.write(0, 0, v), 0);
                Probe.due("agree(0): CLOCK " + v + " in WIDTH " + width, x.agree(0), v == Long.MIN_VALUE && width < 3 ? x.write(0, 2, 1) + 2 : -2);
            }
        }
        Probe.sentence("-2: there is no such SLOT; -6: it has nothing; -7: there is no such number.");
        for (int slot : new int[] {-1, 4, LOWEST, HIGHEST}) {
            Probe.leaves(-2, "write(" + slot + ", 0, 0)", y -> y.write(slot, 0, 1));
        }
        for (int i : new int[] {0, -1, 60}) {
            Probe.leaves(-6, "write(3, " + i + ", 1)", y -> y.write(3, i, 1));
        }
        for (int i : new int[] {-1, 6, 60, LOWEST, HIGHEST}) {
            Probe.leaves(-7, "write(0, " + i + ", 1)", y -> y.write(0, i, 1));
        }
        Probe.leaves(-7, "write(1, 0, 1), of no numbers", y -> y.write(1, 0, 1));
        UnseenClock x = new UnseenClock();
        x.row(2, 0, 60);
        Probe.dueRow("write(2, .., 1)", new int[] {x.write(2, 0, 1), x.write(2, 59, 1), x.write(2, 60, 1)}, 0, 0, -7);
    }

    private static void pastes() {
        Probe.sentence("So many numbers of a SLOT's row, from one on, are put to another one's (or its own), from one on, as they were: 0.");
        UnseenClock x = selves(2, 5);
        Probe.write(x, 0, 0, 0, 2, 1, 0, 1, 1);
        x.row(1, 0, 60);
        Probe.dueRow("from the last numbers to the last", new int[] {x.paste(0, 3, 1, 57, 3), x.agree(1), x.paste(0, 0, 1, 0, 3), x.agree(1), x.agree(0)}, 0, 2, 0, 1, 1);
        Probe.dueRow("none", new int[] {x.paste(0, 0, 1, 57, 0), x.paste(0, 6, 1, 60, 0), x.agree(1)}, 0, 0, 1);
        Probe.dueRow("all, to its own", new int[] {x.paste(1, 0, 1, 0, 60), x.agree(1)}, 0, 1);
        // up and down by one in its own row: by copying number by number the first would run through
        Probe.write(x, 2, 0, 0, 2, 1, 9, 9, 9, 0);
        Probe.due("paste(2, 0, 2, 3, 3)", x.paste(2, 0, 2, 3, 3), 0);
        Probe.due("paste(2, 0, 2, 1, 6)", x.paste(2, 0, 2, 1, 6), 0);
        x.row(3, 0, 6);
        Probe.due("paste(2, 1, 3, 0, 6)", x.paste(2, 1, 3, 0, 6), 0);
        Probe.due("agree(3)", x.agree(3), 2);
        Probe.due("paste(2, 1, 2, 0, 6)", x.paste(2, 1, 2, 0, 6), 0);
        Probe.due("paste(2, 0, 3, 0, 6)", x.paste(2, 0, 3, 0, 6), 0);
        Probe.due("agree(3)", x.agree(3), 2);
        for (int width = 0; width < 4; width++) {
            Probe.write(x, 0, width, 0, 2, 1);
            x.row(1, width, 3);
            Probe.dueRow("WIDTH " + width, new int[] {x.paste(0, 0, 1, 0, 3), x.agree(1), x.write(1, 2, 257), x.agree(1)}, 0, 2, 0, width == 0 ? 2 : 0);
        }
        Probe.sentence("-2: there is no such SLOT; -6: one has nothing; -8: they are not of one WIDTH; -7, and nothing happens: some are beyond their rows, or a place or n is below 0.");
        for (int slot : new int[] {-1, 4, LOWEST, HIGHEST}) {
            Probe.leaves(-2, "paste(" + slot + ", 0, 0, 0, 1)", y -> y.paste(slot, 0, 0, 0, 1));
            Probe.leaves(-2, "paste(0, 0, " + slot + ", 0, 1)", y -> y.paste(0, 0, slot, 0, 1));
            Probe.leaves(-2, "paste(3, 0, " + slot + ", 0, 1)", y -> y.paste(3, 0, slot, 0, 1));
        }
        Probe.leaves(-6, "paste(3, 0, 0, 0, 1)", y -> y.paste(3, 0, 0, 0, 1));
        Probe.leaves(-6, "paste(0, 0, 3, 0, 1)", y -> y.paste(0, 0, 3, 0, 1));
        Probe.leaves(-6, "paste(3, 0, 3, 0, 0)", y -> y.paste(3, 0, 3, 0, 0));
        Probe.leaves(-6, "paste(0, -1, 3, 0, 99): nothing ahead of beyond", y -> y.paste(0, -1, 3, 0, 99));
        Probe.leaves(-8, "paste(0, 0, 1, 0, 0)", y -> y.paste(0, 0, 1, 0, 0));
        Probe.leaves(-8, "paste(1, 0, 0, 0, 1): WIDTH ahead of beyond", y -> y.paste(1, 0, 0, 0, 1));
        Probe.leaves(-8, "paste(0, 0, 2, 0, 1)", y -> y.row(2, 1, 3), y -> y.paste(0, 0, 2, 0, 1));
        int[][] beyond = {
            {0, 0, 2, 1, 3}, {0, 0, 2, 0, 4}, {0, 4, 2, 0, 3}, {0, 6, 2, 0, 1}, {2, 0, 0, 4, 3}, {2, 0, 0, 6, 1}, {0, -1, 2, 0, 1}, {0, 0, 2, -1, 1}, {0, 0, 2, 0, -1},
            {0, 1, 0, 0, 6}, {0, 0, 0, 1, 6}, {0, HIGHEST, 2, 0, 1}, {0, 0, 2, HIGHEST, 1}, {0, 1, 2, 1, HIGHEST}, {0, HIGHEST, 2, HIGHEST, HIGHEST},
            {0, LOWEST, 2, 0, 1}, {0, 0, 2, LOWEST, 1}, {0, 0, 2, 0, LOWEST}, {0, LOWEST, 2, LOWEST, LOWEST}, {0, -1, 2, 0, 2}, {0, 0, 2, -2, 3}
        };
        for (int[] v : beyond) {
            Probe.leaves(-7, "paste" + Arrays.toString(v), y -> y.paste(v[0], v[1], v[2], v[3], v[4]));
        }
        Probe.leaves(0, "paste(0, 3, 0, 3, 3): to where they are", y -> y.paste(0, 3, 0, 3, 3));
        Probe.leaves(0, "paste(0, 6, 2, 3, 0): none, at both ends", y -> y.paste(0, 6, 2, 3, 0));
        UnseenClock last = selves(2, 5);
        Probe.write(last, 0, 0, 0, 2, 1);
        last.row(1, 0, 3);
        Probe.dueRow("paste of all three", new int[] {last.paste(0, 0, 1, 0, 3), last.agree(1), last.paste(0, 0, 1, 0, 4), last.agree(1)}, 0, 2, -7, 2);
    }
}
