/** The bounds of ways, sight, clocks, habits, courses, keepers and draws: sections II to VI of the document. */
public final class TermBoundaryTest {
    private static final int NONE = UnseenClock.NONE;

    public static void main(String[] args) {
        minutes();
        ways();
        sight();
        values();
        each();
        seeing();
        others();
        maybe();
        settling();
        courses();
        knowledge();
        keepers();
        calledAway();
        draws();
        Probe.finish();
    }

    // ---------------------------------------------------------------- II

    private static int[] way(UnseenClock x, int person, int minutes) {
        int[] row = new int[minutes];
        for (int minute = 0; minute < minutes; minute++) {
            row[minute] = x.at(person, minute);
        }
        return row;
    }

    private static void minutes() {
        Probe.sentence("MINUTES 0 .. minutes less 1.");
        for (int minutes : new int[] {5, 40}) {
            UnseenClock x = Probe.of("square wide 2 long 2 minutes " + minutes, "clock at 1 1 pace 1 over 1 shows 60 from 0", "person at 0 0 from 0", "wait 40", "wait 40", "look at 0 each 1 after " + (minutes - 1));
            Probe.due("at(0, the last)", x.at(0, minutes - 1), 0);
            Probe.due("at(0, the end)", x.at(0, minutes), -2);
            Probe.due("eyes(0, the last)", x.eyes(0, minutes - 1), 1);
            Probe.due("eyes(0, the end)", x.eyes(0, minutes), -2);
            Probe.due("looks(0, 0, the last)", x.looks(0, 0, minutes - 1), 1);
            Probe.due("looks(0, 0, the end)", x.looks(0, 0, minutes), -2);
            Probe.due("sees(0, 0, the end)", x.sees(0, 0, minutes), -2);
            Probe.due("shows(0, the last)", x.shows(0, minutes - 1), minutes - 1);
            Probe.due("shows(0, the end)", x.shows(0, minutes), minutes - 1);
            Probe.due("shows(0, behind the end)", x.shows(0, minutes + 1), -2);
        }
    }

    private static void ways() {
        Probe.sentence("A PERSON stands at X Y in the MINUTE from;");
        UnseenClock x = Probe.of("square wide 5 long 5 minutes 6", "person at 3 1 from 0", "person at 3 1 from 3", "person at 3 1 from 5");
        Probe.dueRow("at(0, ..)", way(x, 0, 6), 103, NONE, NONE, NONE, NONE, NONE);
        Probe.dueRow("at(1, ..)", way(x, 1, 6), NONE, NONE, NONE, 103, NONE, NONE);
        Probe.dueRow("at(2, ..)", way(x, 2, 6), NONE, NONE, NONE, NONE, NONE, 103);
        Probe.sentence("each MINUTE of a go he is one CELL on (he stays where a wall, a clock, the square's edge is there)");
        UnseenClock edges = Probe.of("square wide 3 long 3 minutes 5", "person at 1 1 from 0", "go north 12", "person at 1 1 from 0", "go east 12", "person at 1 1 from 0", "go south 12", "person at 1 1 from 0", "go west 12");
        Probe.dueRow("north", way(edges, 0, 5), 101, 1, 1, 1, 1);
        Probe.dueRow("east", way(edges, 1, 5), 101, 102, 102, 102, 102);
        Probe.dueRow("south", way(edges, 2, 5), 101, 201, 201, 201, 201);
        Probe.dueRow("west", way(edges, 3, 5), 101, 100, 100, 100, 100);
        String clock = " pace 1 over 1 shows 9 from 0";
        UnseenClock stopped = Probe.of("square wide 7 long 7 minutes 5", "wall at 3 1", "clock at 5 3" + clock, "person at 3 3 from 0", "go north 4", "person at 3 3 from 0", "go east 4",
            "person at 3 3 from 0", "go south 4", "person at 3 3 from 0", "go west 4", "wall at 3 5", "clock at 1 3" + clock);
        Probe.dueRow("north, to a wall", way(stopped, 0, 5), 303, 203, 203, 203, 203);
        Probe.dueRow("east, to a clock", way(stopped, 1, 5), 303, 304, 304, 304, 304);
        Probe.dueRow("south, to a wall told behind him", way(stopped, 2, 5), 303, 403, 403, 403, 403);
        Probe.dueRow("west, to a clock told behind him", way(stopped, 3, 5), 303, 302, 302, 302, 302);
        UnseenClock through = Probe.of("square wide 4 long 2 minutes 6", "person at 2 0 from 0", "wait 5", "person at 0 0 from 0", "go east 3", "go south 1", "go west 1");
        Probe.dueRow("a PERSON stops nobody, and a step that fails is no end of the go", way(through, 1, 6), 0, 1, 2, 3, 103, 102);
        Probe.sentence("each of a wait where he was; behind all these he is gone.");
        UnseenClock gone = Probe.of("square wide 4 long 2 minutes 6", "person at 0 0 from 1", "wait 2", "go east 1", "person at 0 0 from 3", "wait 2", "person at 0 0 from 3", "wait 1", "person at 0 0 from 5", "go east 12");
        Probe.dueRow("at(0, ..)", way(gone, 0, 6), NONE, 0, 0, 0, 1, NONE);
        Probe.dueRow("at(1, ..)", way(gone, 1, 6), NONE, NONE, NONE, 0, 0, 0);
        Probe.dueRow("at(2, ..)", way(gone, 2, 6), NONE, NONE, NONE, 0, 0, NONE);
        Probe.dueRow("at(3, ..)", way(gone, 3, 6), NONE, NONE, NONE, NONE, NONE, 0);
    }

    /** Whether one at some CELL sees the first clock of a square of 12 by 12. */
    private static int seen(int x, int y, String... lines) {
        return Probe.of("square wide 12 long 12 minutes 5", "clock at 5 5 pace 1 over 1 shows 9 from 0", "person at " + x + " " + y + " from 0", String.join(";", lines)).sees(0, 0, 0);
    }

    private static void sight() {
        Probe.sentence("He SEES a CLOCK from another CELL of its row, its column, or slanting (as far along as across)");
        String none = "wall at 0 1";
        int[][] from = {{0, 5}, {11, 5}, {4, 5}, {6, 5}, {5, 0}, {5, 11}, {5, 4}, {5, 6}, {0, 0}, {11, 11}, {10, 0}, {0, 10}, {4, 4}, {6, 6}, {6, 4}, {4, 6}};
        for (int[] cell : from) {
            Probe.due("seen from " + cell[0] + " " + cell[1], seen(cell[0], cell[1], none), 1);
        }
        int[][] not = {{4, 3}, {3, 4}, {6, 3}, {7, 4}, {7, 6}, {6, 7}, {4, 7}, {3, 6}, {0, 4}, {0, 6}, {4, 0}, {6, 0}, {1, 0}, {11, 10}, {11, 0}, {0, 11}, {9, 0}, {11, 4}};
        for (int[] cell : not) {
            Probe.due("seen from " + cell[0] + " " + cell[1], seen(cell[0], cell[1], none), 0);
        }
        UnseenClock on = Probe.of("square wide 3 long 3 minutes 5", "person at 1 1 from 0", "wait 1", "go east 1", "clock at 1 1 pace 1 over 1 shows 9 from 0", "look at 0 always");
        Probe.dueRow("on its own CELL, and from the next", new int[] {on.at(0, 0), on.sees(0, 0, 0), on.sees(0, 0, 1), on.at(0, 2), on.sees(0, 0, 2), on.looks(0, 0, 1), on.looks(0, 0, 2)}, 101, 0, 0, 102, 1, 0, 1);
        Probe.sentence("if no wall and no other clock lies on CELLS between.");
        String clock = "clock at %d %d pace 1 over 1 shows 9 from 0";
        for (int[] cell : new int[][] {{1, 5}, {9, 5}, {5, 1}, {5, 9}, {1, 1}, {9, 9}, {9, 1}, {1, 9}}) {
            int stepX = Integer.signum(cell[0] - 5);
            int stepY = Integer.signum(cell[1] - 5);
            for (int far = -2; far <= 5; far++) {
                int x = 5 + far * stepX;
                int y = 5 + far * stepY;
                if (far == 0) {
                    continue;
                }
                // far 4 is his own CELL, 5 is behind him, below 0 it is behind the clock
                int due = far > 0 && far < 4 ? 0 : 1;
                Probe.due("from " + cell[0] + " " + cell[1] + ", a wall at " + x + " " + y, seen(cell[0], cell[1], "wall at " + x + " " + y), due);
                Probe.due("from " + cell[0] + " " + cell[1] + ", a clock at " + x + " " + y, seen(cell[0], cell[1], String.format(clock, x, y)), due);
            }
            String beside = "wall at " + (5 + stepX + stepY) + " " + (5 + stepY - stepX);
            String besideToo = "wall at " + (5 + stepX - stepY) + " " + (5 + stepY + stepX);
            Probe.due("from " + cell[0] + " " + cell[1] + ", walls beside the line", seen(cell[0], cell[1], beside, besideToo), 1);
        }
        UnseenClock people = Probe.of("square wide 5 long 2 minutes 5", "clock at 0 0 pace 1 over 1 shows 9 from 0", "person at 1 0 from 0", "person at 4 0 from 0");
        Probe.due("a PERSON between hides nothing", people.sees(1, 0, 0), 1);
    }

    private static int[] shows(UnseenClock x, int clock, int minutes) {
        int[] row = new int[minutes + 1];
        for (int minute = 0; minute <= minutes; minute++) {
            row[minute] = x.shows(clock, minute);
        }
        return row;
    }

    private static void values() {
        Probe.sentence("at first from; each MINUTE in which nobody looks at it it is pace over more behind it.");
        UnseenClock x = Probe.of("square wide 3 long 3 minutes 5", "clock at 1 1 pace 5 over 3 shows 60 from 7", "person at 0 0 from 2", "look at 0 always", "person at 0 0 from 2", "look at 0 always");
        int[] whole = {7, 8, 10, 10, 12, 13};
        int[] above = {0, 2, 1, 1, 0, 2};
        for (int minute = 0; minute <= 5; minute++) {
            Probe.dueRow("value(0, " + minute + ", ..)", new int[] {x.value(0, minute, 0), x.value(0, minute, 1), x.value(0, minute, 2)}, whole[minute], above[minute], 3);
        }
        Probe.sentence("It SHOWS VALUE, cut, modulo shows: in a MINUTE what it SHOWS as that begins.");
        Probe.dueRow("shows 2 from 1", shows(Probe.of("square wide 2 long 2 minutes 5", "clock at 1 1 pace 1 over 1 shows 2 from 1"), 0, 5), 1, 0, 1, 0, 1, 0);
        Probe.dueRow("shows 60 from 59", shows(Probe.of("square wide 2 long 2 minutes 5", "clock at 1 1 pace 1 over 1 shows 60 from 59"), 0, 5), 59, 0, 1, 2, 3, 4);
        Probe.dueRow("pace 60, shows 60", shows(Probe.of("square wide 2 long 2 minutes 5", "clock at 1 1 pace 60 over 1 shows 60 from 59"), 0, 5), 59, 59, 59, 59, 59, 59);
        Probe.dueRow("pace 60, shows 59", shows(Probe.of("square wide 2 long 2 minutes 5", "clock at 1 1 pace 60 over 1 shows 59 from 57"), 0, 5), 57, 58, 0, 1, 2, 3);
        Probe.dueRow("pace 0", shows(Probe.of("square wide 2 long 2 minutes 5", "clock at 1 1 pace 0 over 12 shows 60 from 59"), 0, 5), 59, 59, 59, 59, 59, 59);
        Probe.dueRow("pace 11 over 12", shows(Probe.of("square wide 2 long 2 minutes 5", "clock at 1 1 pace 11 over 12 shows 3 from 2"), 0, 5), 2, 2, 0, 1, 2, 0);
        Probe.dueRow("pace 13 over 12", shows(Probe.of("square wide 2 long 2 minutes 5", "clock at 1 1 pace 13 over 12 shows 3 from 2"), 0, 5), 2, 0, 1, 2, 0, 1);
        // SIGHT and seeing go by what it SHOWS as the MINUTE begins, not by what it comes to
        UnseenClock four = Probe.of("square wide 3 long 3 minutes 5", "clock at 0 0 pace 1 over 1 shows 60 from 58", "clock at 2 0 pace 2 over 1 shows 60 from 57", "clock at 0 2 pace 3 over 1 shows 60 from 56", "clock at 2 2 pace 59 over 1 shows 60 from 59");
        Probe.dueRow("four at once, 0", shows(four, 0, 5), 58, 59, 0, 1, 2, 3);
        Probe.dueRow("four at once, 1", shows(four, 1, 5), 57, 59, 1, 3, 5, 7);
        Probe.dueRow("four at once, 2", shows(four, 2, 5), 56, 59, 2, 5, 8, 11);
        Probe.dueRow("four at once, 3", shows(four, 3, 5), 59, 58, 57, 56, 55, 54);
    }

    // ---------------------------------------------------------------- III

    private static String looks(UnseenClock x, int person, int clock, int minutes) {
        StringBuilder b = new StringBuilder();
        for (int minute = 0; minute < minutes; minute++) {
            b.append(x.looks(person, clock, minute));
        }
        return b.toString();
    }

    private static String looking(String habit) {
        return looks(Probe.of("square wide 3 long 3 minutes 40", "clock at 1 1 pace 1 over 1 shows 60 from 0", "person at 0 0 from 0", "wait 39", "look at 0 " + habit), 0, 0, 40);
    }

    private static void each() {
        Probe.sentence("always; each n after m: in MINUTES m, m and n, m and 2 n, ..;");
        Probe.dueSame("always", looking("always"), "1".repeat(40));
        Probe.dueSame("each 1 after 0", looking("each 1 after 0"), "1".repeat(40));
        Probe.dueSame("each 1 after 39", looking("each 1 after 39"), "0".repeat(39) + "1");
        Probe.dueSame("each 40 after 39", looking("each 40 after 39"), "0".repeat(39) + "1");
        Probe.dueSame("each 40 after 0", looking("each 40 after 0"), "1" + "0".repeat(39));
        Probe.dueSame("each 39 after 0", looking("each 39 after 0"), "1" + "0".repeat(38) + "1");
        Probe.dueSame("each 39 after 1", looking("each 39 after 1"), "01" + "0".repeat(38));
        Probe.dueSame("each 2 after 5", looking("each 2 after 5"), "00000" + "10".repeat(17) + "1");
        Probe.dueSame("each 3 after 2", looking("each 3 after 2"), "001".repeat(13) + "0");
        // the MINUTES are the square's, not his
        UnseenClock late = Probe.of("square wide 3 long 3 minutes 8", "clock at 1 1 pace 1 over 1 shows 60 from 0", "person at 0 0 from 3", "wait 3", "look at 0 each 2 after 2");
        Probe.dueSame("each 2 after 2, from 3 to 6", looks(late, 0, 0, 8), "00001010");
    }

    private static void seeing() {
        Probe.sentence("seeing J is n: he looked at J in the MINUTE ahead, and J SHOWED n then;");
        // he looks at clock 0 in MINUTES 1, 3, 5, when it SHOWS 1, 2, 3
        String[] due = {"0000000", "0010000", "0000100", "0000001", "0000000"};
        for (int n = 0; n < due.length; n++) {
            UnseenClock x = Probe.of("square wide 3 long 3 minutes 7", "clock at 1 1 pace 1 over 1 shows 9 from 0", "clock at 2 0 pace 1 over 1 shows 9 from 3", "person at 1 0 from 0", "wait 6",
                "look at 0 each 2 after 1", "look at 1 seeing 0 is " + n);
            Probe.dueSame("looks at 0", looks(x, 0, 0, 7), "0101010");
            Probe.dueSame("looks at 1 seeing 0 is " + n, looks(x, 0, 1, 7), due[n]);
        }
        StringBuilder late = new StringBuilder("square wide 3 long 3 minutes 7;clock at 0 0 pace 0 over 1 shows 9 from 5;clock at 2 0 pace 0 over 1 shows 9 from 6;clock at 0 2 pace 0 over 1 shows 9 from 7;clock at 2 2 pace 0 over 1 shows 9 from 8");
        for (int i = 0; i < 7; i++) {
            late.append(";person at 1 1 from 0;look at ").append(i % 4).append(" always");
        }
        UnseenClock eighth = Probe.of(late + ";person at 1 1 from 0;wait 6;look at 3 each 3 after 1;look at 2 seeing 3 is 8;look at 1 seeing 3 is 7;look at 0 seeing 2 is 7");
        Probe.dueSame("the eighth looks at 3", looks(eighth, 7, 3, 7), "0100100");
        Probe.dueSame("the eighth looks at 2, seeing 3 is 8", looks(eighth, 7, 2, 7), "0010010");
        Probe.dueSame("the eighth looks at 1, seeing 3 is 7", looks(eighth, 7, 1, 7), "0000000");
        Probe.dueSame("the eighth looks at 0, seeing 2 is 7", looks(eighth, 7, 0, 7), "0001001");
        Probe.dueSame("itself: never, as he never looked", looking("seeing 0 is 0"), "0".repeat(40));
        UnseenClock once = Probe.of("square wide 3 long 3 minutes 7", "clock at 1 1 pace 1 over 1 shows 9 from 0", "person at 0 0 from 0", "wait 4", "look at 0 each 40 after 2", "look at 0 seeing 0 is 2");
        Probe.dueSame("itself: again and again, till he is gone", looks(once, 0, 0, 7), "0011100");
        UnseenClock first = Probe.of("square wide 3 long 3 minutes 7", "clock at 1 1 pace 1 over 1 shows 9 from 0", "person at 0 0 from 0", "wait 4", "look at 0 each 40 after 0", "look at 0 seeing 0 is 0");
        Probe.dueSame("from MINUTE 0 on", looks(first, 0, 0, 7), "1111100");
        UnseenClock other = Probe.of("square wide 3 long 3 minutes 7", "clock at 1 1 pace 0 over 1 shows 60 from 59", "person at 0 0 from 0", "wait 6", "look at 0 always", "person at 2 2 from 0", "wait 6", "look at 0 seeing 0 is 59");
        Probe.dueSame("another one's look is not his", looks(other, 1, 0, 7), "0000000");
        UnseenClock hidden = Probe.of("square wide 5 long 2 minutes 6", "clock at 0 0 pace 0 over 1 shows 60 from 59", "person at 1 0 from 0", "wait 5", "look at 0 each 2 after 0", "look at 0 seeing 0 is 59");
        Probe.dueSame("59", looks(hidden, 0, 0, 6), "111111");
        UnseenClock away = Probe.of("square wide 5 long 2 minutes 6", "clock at 0 0 pace 0 over 1 shows 60 from 59", "clock at 4 0 pace 0 over 1 shows 9 from 0", "wall at 2 0", "person at 1 0 from 0", "go south 1",
            "go east 3", "wait 1", "look at 0 always", "look at 1 seeing 0 is 59");
        // at 1 0, then 1 1, 2 1, 3 1, 4 1, 4 1: clock 0 is seen in MINUTES 0 and 1, clock 1 from 3 on
        Probe.dueSame("looks at 0", looks(away, 0, 0, 6), "110000");
        Probe.dueSame("he does not SEE it in the MINUTE behind", looks(away, 0, 1, 6), "000000");
    }

    private static void others() {
        Probe.sentence("with P: P looks at it in this MINUTE; unless P: P does not (also if there is no such PERSON, or he does not see it)");
        for (String habit : new String[] {"with", "unless"}) {
            String yes = habit.equals("with") ? "1" : "0";
            String no = habit.equals("with") ? "0" : "1";
            UnseenClock x = Probe.of("square wide 3 long 3 minutes 5", "clock at 1 1 pace 1 over 1 shows 9 from 0", "person at 0 0 from 0", "wait 4", "look at 0 " + habit + " 1", "person at 2 2 from 0", "wait 3", "look at 0 each 2 after 0");
            Probe.dueSame(habit + " 1, who looks in 0 and 2 and is gone in 4", looks(x, 0, 0, 5), yes + no + yes + no + no);
            x.call(1, true);
            Probe.dueSame(habit + " 1, who is CALLED away", looks(x, 0, 0, 5), no.repeat(5));
            UnseenClock nobody = Probe.of("square wide 3 long 3 minutes 5", "clock at 1 1 pace 1 over 1 shows 9 from 0", "person at 0 0 from 0", "wait 4", "look at 0 " + habit + " 1");
            Probe.dueSame(habit + " 1, who is not", looks(nobody, 0, 0, 5), no.repeat(5));
            UnseenClock eighth = Probe.of("square wide 3 long 3 minutes 5", "clock at 1 1 pace 1 over 1 shows 9 from 0", "person at 0 0 from 0", "wait 4", "look at 0 " + habit + " 7");
            Probe.dueSame(habit + " 7, who is not", looks(eighth, 0, 0, 5), no.repeat(5));
            Probe.due("open()", eighth.open(), 0);
            UnseenClock blind = Probe.of("square wide 3 long 3 minutes 5", "clock at 1 1 pace 1 over 1 shows 9 from 0", "person at 0 0 from 0", "wait 4", "look at 0 " + habit + " 1", "person at 2 2 from 0", "wait 4", "look at 0 maybe 0");
            Probe.dueSame(habit + " 1, who does not look", looks(blind, 0, 0, 5), no.repeat(5));
            UnseenClock hidden = Probe.of("square wide 5 long 3 minutes 5", "clock at 1 1 pace 1 over 1 shows 9 from 0", "wall at 3 1", "person at 0 0 from 0", "wait 4", "look at 0 " + habit + " 1", "person at 4 1 from 0", "wait 4", "look at 0 always");
            Probe.dueSame(habit + " 1, who does not SEE it", looks(hidden, 0, 0, 5), no.repeat(5));
            UnseenClock elsewhere = Probe.of("square wide 3 long 3 minutes 5", "clock at 0 0 pace 1 over 1 shows 9 from 0", "clock at 2 2 pace 1 over 1 shows 9 from 0", "person at 1 1 from 0", "wait 4", "look at 0 " + habit + " 1",
                "person at 1 1 from 0", "wait 4", "look at 1 always");
            Probe.dueSame(habit + " 1, who looks at another clock", looks(elsewhere, 0, 0, 5), no.repeat(5));
            UnseenClock one = Probe.of("square wide 3 long 3 minutes 5", "clock at 1 1 pace 1 over 1 shows 9 from 0", "person at 0 0 from 0", "wait 4", "look at 0 " + habit + " 1", "look at 0 each 40 after 1", "person at 2 2 from 0", "wait 4", "look at 0 each 2 after 0");
            Probe.dueSame(habit + " 1, or by a look more", looks(one, 0, 0, 5), yes + "1" + yes + no + yes);
        }
    }

    private static void maybe() {
        Probe.sentence("maybe: just on days drawn.");
        UnseenClock x = Probe.of("square wide 3 long 3 minutes 5", "clock at 1 1 pace 1 over 1 shows 9 from 0", "person at 0 0 from 0", "wait 4", "look at 0 maybe 100");
        Probe.dueSame("maybe 100", looks(x, 0, 0, 5), "00000");
        Probe.dueRow("shows, days, courses, kept, pace, among", new int[] {x.shows(0, 5), x.day(9, 0, 5), x.courses(), x.kept(0, 1, 5), x.pace(0, 5, 5), x.among(0, 5, 5), x.without(0, 0, 5), x.day(9, 0, 5), x.shows(0, 5)},
            5, 0, 1, 4, 1, 1, 5, 0, 5);
    }

    private static void settling() {
        Probe.sentence("it is yes, if some HABIT surely holds; no, if he does not SEE it or none can hold any more.");
        String clock = "clock at 1 1 pace 1 over 1 shows 9 from 0";
        String square = "square wide 3 long 3 minutes 5";
        UnseenClock chain = Probe.of(square, clock, "person at 0 0 from 0", "look at 0 with 1", "person at 0 0 from 0", "look at 0 with 2", "person at 0 0 from 0", "look at 0 with 3", "person at 0 0 from 0", "look at 0 with 4",
            "person at 0 0 from 0", "look at 0 with 5", "person at 0 0 from 0", "look at 0 with 6", "person at 0 0 from 0", "look at 0 with 7", "person at 0 0 from 0", "look at 0 always");
        Probe.due("eyes(0, 0), a chain of eight", chain.eyes(0, 0), 8);
        Probe.due("open()", chain.open(), 0);
        chain.call(7, true);
        Probe.due("eyes(0, 0), its end CALLED away", chain.eyes(0, 0), 0);
        Probe.due("open()", chain.open(), 0);
        UnseenClock turns = Probe.of(square, clock, "person at 0 0 from 0", "look at 0 unless 1", "person at 0 0 from 0", "look at 0 unless 2", "person at 0 0 from 0", "look at 0 unless 3", "person at 0 0 from 0", "look at 0 unless 4",
            "person at 0 0 from 0", "look at 0 unless 5", "person at 0 0 from 0", "look at 0 unless 6", "person at 0 0 from 0", "look at 0 unless 7", "person at 0 0 from 0", "look at 0 unless 7", "look at 0 each 1 after 1");
        // nobody hangs on one ahead of him, so that nothing is SETTLED by these: each is OPEN in his turn
        Probe.dueRow("all are left", new int[] {turns.open(), turns.opens(0), turns.opens(1), turns.opens(7), turns.opens(8), turns.eyes(0, 0), turns.courses()}, 8, 0, 10, 70, NONE, 0, -3);
        UnseenClock mixed = Probe.of(square, clock, "person at 0 0 from 0", "look at 0 with 1", "look at 0 always", "person at 0 0 from 0", "look at 0 with 1", "look at 0 unless 0", "person at 0 0 from 0", "look at 0 unless 2", "look at 0 unless 7");
        Probe.due("yes by one of two", mixed.looks(0, 0, 0), 1);
        Probe.due("OPEN: with himself can hold yet", mixed.looks(1, 0, 0), 2);
        Probe.due("yes, though the other can't be settled", mixed.looks(2, 0, 0), 1);
        Probe.due("open()", mixed.open(), 1);
        Probe.sentence("If some are left, the first of them (by PERSON, then CLOCK) is OPEN, and taken one way or the other; then others may be SETTLED by it, and so on.");
        UnseenClock ring = Probe.of(square, clock, "person at 0 0 from 0", "look at 0 with 1", "person at 0 0 from 0", "look at 0 with 2", "person at 0 0 from 0", "look at 0 with 0");
        Probe.dueRow("a ring", new int[] {ring.open(), ring.opens(0), ring.looks(0, 0, 0), ring.looks(1, 0, 0), ring.looks(2, 0, 0), ring.courses(), ring.among(0, 1, 0)}, 1, 0, 2, 0, 0, 2, 1);
        UnseenClock two = Probe.of(square, "clock at 0 0 pace 1 over 1 shows 9 from 0", "clock at 2 2 pace 1 over 1 shows 9 from 0", "person at 1 1 from 0", "look at 1 with 0", "person at 1 1 from 0", "look at 1 with 1", "look at 0 with 1");
        Probe.dueRow("by PERSON, then CLOCK", new int[] {two.open(), two.opens(0), two.opens(1), two.opens(2), two.opens(3)}, 3, 1, 10, 11, NONE);
        UnseenClock odd = Probe.of(square, clock, "person at 0 0 from 0", "look at 0 unless 0");
        Probe.dueRow("unless himself", new int[] {odd.looks(0, 0, 0), odd.eyes(0, 0), odd.courses(), odd.among(0, 1, 0)}, 2, 0, 2, 1);
        Probe.sentence("The PLAIN course takes each OPEN one as no.");
        Probe.dueRow("shows(0, 1)", new int[] {ring.shows(0, 1), odd.shows(0, 1), two.shows(0, 1), two.shows(1, 1)}, 1, 1, 1, 1);
        // also where all COURSES were asked for just ahead
        UnseenClock asked = Probe.of(square, clock, "person at 0 0 from 0", "wait 4", "look at 0 with 0", "person at 0 0 from 0");
        Probe.dueRow("asked behind courses()", new int[] {asked.courses(), asked.without(1, 0, 5), asked.courses(), asked.kept(0, 0, 5), asked.courses(), asked.day(1, 0, 5), asked.away(0, 5, 5, 1), asked.pace(0, 5, 5)}, 32, 5, 32, 5, 32, 5, 0, 1);
        Probe.due("asked behind a CALL and courses()", asked.call(1, true), 1);
        Probe.dueRow("asked behind a CALL and courses()", new int[] {asked.courses(), asked.hush(1, 5, 5, 1), asked.all(1, 5, 5), asked.keep(0, 5, 5), asked.open(), asked.shows(0, 5)}, 32, 0, 0, 0, 5, 5);
    }

    private static void courses() {
        Probe.sentence("COURSES: by all ways of taking OPEN looks, no ahead of yes, the first one told first: 128 at most.");
        // seven looks of one MINUTE, and an eighth one
        for (int people = 7; people <= 8; people++) {
            StringBuilder b = new StringBuilder("square wide 3 long 3 minutes 5;clock at 1 1 pace 1 over 1 shows 9 from 0");
            for (int i = 0; i < people; i++) {
                b.append(";person at 0 0 from 0;look at 0 with ").append(i);
            }
            UnseenClock x = Probe.of(b.toString());
            Probe.due("open() of " + people, x.open(), people);
            Probe.due("courses() of " + people, x.courses(), people == 7 ? 128 : -3);
            Probe.due("among(0, 1, 1) of " + people, x.among(0, 1, 1), people == 7 ? 1 : -3);
        }
        UnseenClock comb = Probe.of("square wide 3 long 3 minutes 40", "clock at 1 1 pace 1 over 1 shows 60 from 0", "person at 0 0 from 0", "wait 39", "look at 0 with 0", "look at 0 seeing 0 is 0", "look at 0 seeing 0 is 1",
            "look at 0 seeing 0 is 2");
        Probe.due("courses(): beyond 2 each look is OPEN again", comb.courses(), -3);
        UnseenClock few = Probe.of("square wide 3 long 3 minutes 5", "clock at 1 1 pace 1 over 1 shows 60 from 0", "person at 0 0 from 0", "wait 4", "look at 0 with 0", "look at 0 seeing 0 is 0", "look at 0 seeing 0 is 1", "look at 0 seeing 0 is 2");
        Probe.dueRow("courses(): y, ny, nny, nnnyy, nnnyn, nnnny, nnnnn", new int[] {few.courses(), few.among(0, 5, 0), few.among(0, 5, 1), few.among(0, 5, 2), few.among(0, 5, 3), few.among(0, 5, 4), few.among(0, 5, 5)}, 7, 1, 1, 1, 1, 2, 1);
        Probe.sentence("SIGHT: of a PERSON in a course: for each MINUTE at which CLOCKS he looks, and what they SHOW.");
        UnseenClock last = Probe.of("square wide 3 long 3 minutes 5", "clock at 1 1 pace 1 over 1 shows 60 from 0", "person at 0 0 from 4", "look at 0 with 0", "person at 2 2 from 4", "look at 0 always");
        Probe.dueRow("the last MINUTE belongs to it, the end does not", new int[] {last.courses(), last.sights(0), last.sights(1), last.alike(1), last.knows(1, 0, 5), last.among(0, 5, 4)}, 2, 2, 1, 2, 4, 2);
        sightOfEachSet();
        UnseenClock wrapped = Probe.of("square wide 3 long 3 minutes 5", "clock at 1 1 pace 2 over 1 shows 2 from 0", "person at 0 0 from 0", "look at 0 with 0", "person at 2 2 from 3", "look at 0 always");
        Probe.dueRow("what it SHOWS, not VALUE", new int[] {wrapped.courses(), wrapped.sights(1), wrapped.knows(1, 0, 5)}, 2, 1, 0);
    }

    /** Two COURSES that differ by one bit of what one CLOCK SHOWS in MINUTE 1: he tells them apart only if he looks at that one then. */
    private static void sightOfEachSet() {
        String[] corners = {"0 0", "2 0", "0 2", "2 2"};
        for (int which = 0; which < 4; which++) {
            for (int bit = 0; bit < 6; bit++) {
                StringBuilder b = new StringBuilder("square wide 3 long 3 minutes 5");
                for (int clock = 0; clock < 4; clock++) {
                    b.append(";clock at ").append(corners[clock]).append(" pace ").append(1 << bit).append(" over 1 shows 60 from 0");
                }
                b.append(";person at 1 1 from 0;look at ").append(which).append(" with 0");
                for (int set = 0; set < 16; set++) {
                    StringBuilder looks = new StringBuilder(";person at 1 1 from 1");
                    for (int clock = 0; clock < 4; clock++) {
                        looks.append((set >> clock & 1) != 0 ? ";look at " + clock + " always" : "");
                    }
                    UnseenClock x = Probe.of(b.toString() + looks);
                    int unlike = (set >> which & 1) != 0 ? 2 : 1;
                    Probe.dueRow("CLOCK " + which + " SHOWS " + (1 << bit) + " or 0, looks at " + set, new int[] {x.courses(), x.sights(1), x.alike(1), x.learns(1, which, 1)}, 2, unlike, 3 - unlike, unlike == 2 ? 2 : NONE);
                }
            }
        }
        UnseenClock watched = Probe.of("square wide 3 long 3 minutes 5", "clock at 1 1 pace 1 over 1 shows 60 from 0", "person at 0 0 from 0", "wait 2", "look at 0 with 0", "person at 2 2 from 4", "look at 0 always", "person at 2 2 from 1",
            "look at 0 always", "person at 2 2 from 0");
        // in MINUTE 1 it SHOWS 1 or 0; it stands still then by 2, so that 0's look in it is nothing to it, and SHOWS 3, 2 or 1 in MINUTE 4
        Probe.dueRow("sights(..)", new int[] {watched.courses(), watched.sights(0), watched.sights(1), watched.sights(2), watched.sights(3)}, 8, 8, 3, 2, 1);
        Probe.dueRow("alike(..)", new int[] {watched.alike(0), watched.alike(1), watched.alike(2), watched.alike(3)}, 1, 2, 4, 8);
        Probe.dueRow("both(.., 0, 2): in MINUTE 2 it SHOWS 1", new int[] {watched.both(1, 3, 0, 2), watched.both(3, 2, 0, 2), watched.both(2, 1, 0, 2), watched.both(3, 1, 0, 2)}, 1, 1, 1, 1);
        Probe.dueRow("both(.., 0, 3): 2 or 1 by 0's look in MINUTE 2", new int[] {watched.both(3, 2, 0, 3), watched.both(2, 1, 0, 3), watched.both(3, 0, 0, 3)}, NONE, 2, 2);
    }

    // ---------------------------------------------------------------- IV to VI

    private static void knowledge() {
        Probe.sentence("COMMON to some: what is so in all COURSES to which one comes from the PLAIN one by steps, each between two that have the same SIGHT of one of them.");
        // four COURSES by two OPEN looks at two clocks, each one's own
        UnseenClock x = Probe.of("square wide 5 long 2 minutes 5", "clock at 0 0 pace 1 over 1 shows 9 from 0", "clock at 4 0 pace 1 over 1 shows 9 from 0", "wall at 2 0", "person at 1 0 from 0", "look at 0 with 0", "person at 3 0 from 0", "look at 1 with 1");
        Probe.dueRow("common(.., 0, 5)", new int[] {x.common(0, 0, 5), x.common(1, 0, 5), x.common(2, 0, 5), x.common(3, 0, 5)}, 5, 5, NONE, NONE);
        Probe.dueRow("common(.., 1, 5)", new int[] {x.common(0, 1, 5), x.common(1, 1, 5), x.common(2, 1, 5), x.common(3, 1, 5)}, 5, NONE, 5, NONE);
        Probe.dueRow("common(3, .., 0)", new int[] {x.common(3, 0, 0), x.common(3, 1, 0)}, 0, 0);
        // 0 may look in MINUTE 0, 1 in MINUTE 1; 2 looks at clock 1 in MINUTE 3 just if both did, and to that course one comes by two steps
        UnseenClock steps = Probe.of("square wide 3 long 3 minutes 5", "clock at 0 0 pace 1 over 1 shows 9 from 0", "clock at 2 2 pace 1 over 1 shows 9 from 0", "person at 1 1 from 0", "look at 0 with 0", "person at 1 1 from 1", "look at 0 with 1",
            "person at 1 1 from 2", "wait 1", "look at 0 each 40 after 2", "look at 1 seeing 0 is 0");
        Probe.dueRow("by which COURSES", new int[] {steps.courses(), steps.among(1, 5, 5), steps.among(1, 5, 4)}, 4, 3, 1);
        Probe.dueRow("common(.., 1, 5)", new int[] {steps.common(0, 1, 5), steps.common(1, 1, 5), steps.common(2, 1, 5), steps.common(3, 1, 5), steps.common(4, 1, 5), steps.common(2, 1, 5), steps.common(1, 1, 5)}, 5, 5, 5, NONE, 5, 5, 5);
        Probe.dueRow("knows(.., 1, 5)", new int[] {steps.knows(0, 1, 5), steps.knows(1, 1, 5), steps.knows(2, 1, 5)}, 5, 5, 5);
        Probe.sentence("KNOWN to somebody in the PLAIN course is what is so in all COURSES that have the same SIGHT of his.");
        Probe.dueRow("knows(.., .., 5)", new int[] {x.knows(0, 0, 5), x.knows(0, 1, 5), x.knows(1, 0, 5), x.knows(1, 1, 5), x.both(0, 1, 0, 5)}, 5, NONE, NONE, 5, 5);
    }

    private static void keepers() {
        Probe.sentence("in each MINUTE in which nobody looks at a CLOCK (PLAIN course, habits as they are then) a keeper does (nobody's look hangs on him), till he has n times.");
        String square = "square wide 3 long 3 minutes 6";
        String clock = "clock at 1 1 pace 1 over 1 shows 9 from 0";
        UnseenClock x = Probe.of(square, clock, "person at 0 0 from 0", "wait 5", "look at 0 each 2 after 0");
        Probe.dueRow("kept(0, .., 6)", new int[] {x.kept(0, 0, 6), x.kept(0, 1, 6), x.kept(0, 2, 6), x.kept(0, 3, 6), x.kept(0, 4, 6)}, 3, 2, 1, 0, 0);
        Probe.dueRow("last(0, 6, ..)", new int[] {x.last(0, 6, 3), x.last(0, 6, 2), x.last(0, 6, 1), x.last(0, 6, 0)}, NONE, 1, 3, 5);
        UnseenClock hangs = Probe.of(square, clock, "person at 0 0 from 0", "wait 5", "look at 0 with 1", "look at 0 unless 7", "person at 0 0 from 0", "wait 5", "look at 0 with 0");
        hangs.call(0, true);
        Probe.dueRow("with one who is away: the keeper is nobody's P", new int[] {hangs.kept(0, 0, 6), hangs.kept(0, 2, 6)}, 6, 4);
        UnseenClock seen = Probe.of(square, clock, "person at 0 0 from 0", "wait 5", "look at 0 each 40 after 2", "look at 0 seeing 0 is 1");
        // kept in MINUTE 0 it SHOWS 1 in MINUTE 2, when he looks, and he looks on
        Probe.dueRow("habits as they are then", new int[] {seen.kept(0, 0, 6), seen.kept(0, 1, 6), seen.kept(0, 2, 6)}, 5, 1, 3);
        UnseenClock open = Probe.of(square, clock, "person at 0 0 from 0", "wait 5", "look at 0 with 0");
        Probe.dueRow("OPEN looks are no", new int[] {open.kept(0, 0, 6), open.kept(0, 6, 6), open.kept(0, 5, 6)}, 6, 0, 1);
        UnseenClock two = Probe.of(square, "clock at 0 0 pace 1 over 1 shows 9 from 0", "clock at 2 2 pace 1 over 1 shows 9 from 0", "person at 1 1 from 0", "wait 5", "look at 0 each 2 after 0", "look at 1 seeing 0 is 1");
        // he looks at 0 in 0, 2, 4 (it SHOWS 0, 1, 2), so at 1 in 3; kept once, 0 SHOWS 1 in MINUTE 4, and he looks at 1 in 5
        Probe.dueRow("another clock is not kept", new int[] {two.kept(0, 1, 6), two.kept(1, 1, 6), two.kept(1, 0, 6), two.shows(1, 6), two.shows(0, 6)}, 2, 4, 5, 5, 3);
    }

    private static void calledAway() {
        Probe.sentence("CALLED away: a PERSON is not there at all.");
        UnseenClock x = Probe.of("square wide 3 long 3 minutes 5", "clock at 1 1 pace 1 over 1 shows 9 from 0", "person at 0 0 from 0", "wait 4", "look at 0 with 0", "look at 0 maybe 100", "person at 2 2 from 0", "wait 4", "look at 0 unless 0");
        Probe.dueRow("there", new int[] {x.open(), x.courses(), x.at(0, 0), x.sees(0, 0, 0), x.looks(0, 0, 0), x.looks(1, 0, 0)}, 5, 32, 0, 1, 2, 1);
        Probe.due("call(0, true)", x.call(0, true), 1);
        Probe.dueRow("not there", new int[] {x.open(), x.courses(), x.at(0, 0), x.sees(0, 0, 0), x.looks(0, 0, 0), x.looks(1, 0, 0), x.sights(0), x.alike(0), x.meets(0, 1)}, 0, 1, NONE, 0, 0, 1, 1, 1, 0);
        Probe.due("call(1, true)", x.call(1, true), 1);
        Probe.dueRow("both not there", new int[] {x.eyes(0, 0), x.shows(0, 5), x.count(4), x.count(8), x.day(1, 0, 5)}, 0, 5, 2, 3, 5);
        x.call(0, false);
        eachCalledAway();
        Probe.dueRow("there again", new int[] {x.open(), x.at(0, 4), x.day(1, 0, 5), x.count(8)}, 5, 0, 0, 2);
    }

    private static void eachCalledAway() {
        StringBuilder b = new StringBuilder("square wide 3 long 3 minutes 5;clock at 1 1 pace 1 over 1 shows 9 from 0");
        for (int i = 0; i < 8; i++) {
            b.append(";person at ").append(i % 2 * 2).append(" 0 from 0;look at 0 always");
        }
        UnseenClock x = Probe.of(b.toString());
        for (int away = 0; away < 8; away++) {
            x.call(away, true);
            for (int person = 0; person < 8; person++) {
                boolean there = person != away;
                Probe.dueRow(away + " is away, " + person, new int[] {x.at(person, 0), x.sees(person, 0, 0), x.looks(person, 0, 0)}, there ? person % 2 * 2 : NONE, there ? 1 : 0, there ? 1 : 0);
            }
            Probe.due("eyes(0, 0)", x.eyes(0, 0), 7);
            x.call(away, false);
        }
    }

    private static int draw(long seed, int which) {
        java.math.BigInteger x = java.math.BigInteger.valueOf(seed);
        for (int i = 0; i <= which; i++) {
            x = x.multiply(java.math.BigInteger.valueOf(1103515245)).add(java.math.BigInteger.valueOf(12345)).mod(java.math.BigInteger.valueOf(2147483648L));
        }
        return x.divide(java.math.BigInteger.valueOf(65536)).mod(java.math.BigInteger.valueOf(100)).intValue();
    }

    private static void draws() {
        Probe.sentence("x becomes (1103515245 x + 12345) modulo 2,147,483,648 (at first it is the seed); a draw: x / 65536, cut, modulo 100.");
        // in each of 40 MINUTES a draw: it SHOWS by the end how many were not below 50
        String[] lines = {"square wide 3 long 3 minutes 40", "clock at 1 1 pace 1 over 1 shows 60 from 0", "person at 0 0 from 0", "wait 39", "look at 0 maybe 50"};
        UnseenClock x = Probe.of(lines);
        for (int seed : new int[] {0, 1, 12345, 1073741824, 1999999999, 2000000000}) {
            int goes = 0;
            for (int minute = 0; minute < 40; minute++) {
                goes += draw(seed, minute) < 50 ? 0 : 1;
                Probe.due("day(" + seed + ", 0, " + (minute + 1) + ")", x.day(seed, 0, minute + 1), goes);
            }
        }
        Probe.sentence("it holds, if it is below N; OPEN looks as in the PLAIN course.");
        for (int seed = 1; seed < 4; seed++) {
            int n = draw(seed, 0);
            Probe.due("maybe " + n, oneDraw(n, seed), 1);
            Probe.due("maybe " + (n + 1), oneDraw(n + 1, seed), 0);
        }
        UnseenClock open = Probe.of("square wide 3 long 3 minutes 5", "clock at 1 1 pace 1 over 1 shows 9 from 0", "person at 0 0 from 0", "wait 4", "look at 0 with 0");
        Probe.due("day(1, 0, 5), OPEN ones are no", open.day(1, 0, 5), 5);
        UnseenClock follows = Probe.of("square wide 3 long 3 minutes 5", "clock at 1 1 pace 1 over 1 shows 9 from 0", "person at 0 0 from 0", "wait 4", "look at 0 with 1", "person at 0 0 from 0", "wait 4", "look at 0 with 0", "look at 0 maybe 100");
        Probe.dueRow("a draw settles what else is OPEN", new int[] {follows.open(), follows.shows(0, 5), follows.day(1, 0, 5)}, 5, 5, 0);
        Probe.sentence("MINUTE by MINUTE, PERSON by PERSON who is there, for each of his looks with maybe N, as they stand, at a CLOCK that he SEES, a draw");
        order();
    }

    private static int oneDraw(int n, int seed) {
        return Probe.of("square wide 3 long 3 minutes 5", "clock at 1 1 pace 1 over 1 shows 9 from 0", "person at 0 0 from 0", "look at 0 maybe " + n).day(seed, 0, 1);
    }

    /** Draw number which decides alone, for a seed by which those beside it would decide otherwise; all other looks hold never. */
    private static void order() {
        String square = "square wide 7 long 3 minutes 5";
        String clocks = "clock at 1 1 pace 1 over 1 shows 9 from 0;clock at 5 1 pace 1 over 1 shows 9 from 0;wall at 3 1";
        for (int seed = 1; seed <= 12; seed++) {
            // 0: a look that always holds, and two draws of it; 1: one draw in MINUTE 0, one in MINUTE 1; 2 sees clock 1 alone
            String people = "person at 0 0 from 0;look at 0 maybe 0;look at 0 always;look at 0 maybe 0;person at 0 1 from 0;wait 1;look at 0 maybe %d;look at 1 maybe 100;person at 6 0 from 0;wait 1;look at 0 maybe 100;look at 1 maybe %d";
            int third = draw(seed, 2);
            int fourth = draw(seed, 3);
            UnseenClock held = Probe.of(square, clocks, String.format(people, third + 1, fourth + 1));
            UnseenClock free = Probe.of(square, clocks, String.format(people, third, fourth));
            Probe.due("the fourth draw of seed " + seed + ", below", held.day(seed, 1, 1), 0);
            Probe.due("the fourth draw of seed " + seed + ", not below", free.day(seed, 1, 1), 1);
            int fifth = draw(seed, 4);
            int sixth = draw(seed, 5);
            UnseenClock second = Probe.of(square, clocks, String.format(people, fifth + 1, sixth + 1));
            UnseenClock secondFree = Probe.of(square, clocks, String.format(people, fifth, sixth));
            Probe.due("the fifth draw, in MINUTE 1", second.day(seed, 0, 2) - second.day(seed, 0, 1), 0);
            Probe.due("the fifth draw, in MINUTE 1, not below", secondFree.day(seed, 0, 2) - secondFree.day(seed, 0, 1), 1);
            Probe.due("the sixth draw, in MINUTE 1", second.day(seed, 1, 2) - second.day(seed, 1, 1), 0);
            Probe.due("the sixth draw, in MINUTE 1, not below", secondFree.day(seed, 1, 2) - secondFree.day(seed, 1, 1), 1);
            // 0 being CALLED away, his two draws are not made
            UnseenClock away = Probe.of(square, clocks, String.format(people, draw(seed, 0) + 1, draw(seed, 1) + 1));
            away.call(0, true);
            Probe.due("0 is CALLED away", away.day(seed, 0, 1) + away.day(seed, 1, 1), 0);
            UnseenClock awayFree = Probe.of(square, clocks, String.format(people, draw(seed, 0), draw(seed, 1)));
            awayFree.call(0, true);
            Probe.due("0 is CALLED away, not below", awayFree.day(seed, 0, 1) + awayFree.day(seed, 1, 1), 2);
        }
    }
}
