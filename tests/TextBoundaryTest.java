/** The bounds of the TAPE and of the text on it: section I of the document, and promises 1 to 5. */
public final class TextBoundaryTest {
    private static final int NONE = UnseenClock.NONE;

    /* 31 bytes. */
    private static final String S = "square wide 5 long 4 minutes 6;";
    private static final String CLOCK = "clock at 1 1 pace 1 over 1 shows 9 from 0;";
    private static final String PERSON = "person at 0 0 from 0;";

    public static void main(String[] args) {
        newObject();
        feeding();
        ending();
        squares();
        textsInARow();
        squaresInPlace();
        latestFault();
        firstLine();
        sizes();
        cells();
        freeCells();
        clockNumbers();
        personNumbers();
        looksAt();
        habits();
        limits();
        ofTheLatestPerson();
        tokens();
        placesOfFaults();
        Probe.finish();
    }

    // ---------------------------------------------------------------- what is taken, what is refused

    private static int linesOf(String text) {
        return (int) text.chars().filter(c -> c == ';').count();
    }

    private static UnseenClock taken(String text) {
        UnseenClock x = Probe.standing();
        x.end(0);
        Probe.put(x, text);
        Probe.due("square() of '" + text + "'", x.square(), linesOf(text));
        Probe.due("fault(0) of '" + text + "'", x.fault(0), 0);
        Probe.due("fault(1) of '" + text + "'", x.fault(1), NONE);
        Probe.due("count(6) of '" + text + "'", x.count(6), linesOf(text));
        Probe.due("count(7) behind '" + text + "'", x.count(7), 0);
        Probe.due("count(8) behind '" + text + "'", x.count(8), 0);
        return x;
    }

    /** The FAULT and its place, that all stays (the SQUARE, paces, who is away, IMAGES, SLOTS), and that the TAPE is empty. */
    private static void faulty(String text, int fault, int place) {
        UnseenClock x = Probe.standing();
        UnseenClock twin = Probe.standing();
        x.end(0);
        twin.end(0);
        Probe.put(x, text);
        Probe.due("square() of '" + text + "'", x.square(), -4);
        Probe.due("fault(0) of '" + text + "'", x.fault(0), fault);
        Probe.due("fault(1) of '" + text + "'", x.fault(1), place);
        Probe.dueSame("square() of '" + text + "'", Probe.rest(x), Probe.rest(twin));
    }

    /** A number in a text, on both sides of both its bounds; it does not come back into them by a wrap-around. */
    private static void number(String ahead, String behind, int least, int most) {
        taken(ahead + least + behind);
        taken(ahead + most + behind);
        taken(ahead + "000" + most + behind);
        faulty(ahead + (most + 1) + behind, 2, ahead.length());
        if (least > 0) {
            faulty(ahead + (least - 1) + behind, 2, ahead.length());
        }
        faulty(ahead + (4294967296L + least) + behind, 2, ahead.length());
        faulty(ahead + "18446744073709551616".substring(0, 18) + (16 + least) + behind, 2, ahead.length());
        faulty(ahead + "-1" + behind, 1, ahead.length());
        if (!Character.isDigit(behind.trim().charAt(0))) {
            faulty(ahead + behind, 1, ahead.length() + (behind.startsWith(" ") ? 1 : 0));
        }
        faulty(ahead + "some" + behind, 1, ahead.length());
    }

    // ---------------------------------------------------------------- promises 1 to 5

    private static void newObject() {
        Probe.sentence("`UnseenClock()`: No SQUARE.");
        UnseenClock x = new UnseenClock();
        for (int what = 0; what < 10; what++) {
            Probe.due("count(" + what + ")", x.count(what), 0);
        }
        Probe.due("open()", x.open(), -2);
        for (int k = 0; k < 3; k++) {
            Probe.due("back(" + k + ")", x.back(k), -6);
        }
        for (int slot = 0; slot < 4; slot++) {
            Probe.due("write(" + slot + ", 0, 0)", x.write(slot, 0, 0), -6);
        }
        Probe.sentence("An object is used for at most 512 calls after it has been made");
        // five calls are made for the text: two of feed(), and count(), end(), square()
        x = Probe.of("square wide 5 long 4 minutes 6");
        for (int call = 6; call <= 511; call++) {
            x.call(0, true);
        }
        Probe.due("the 512th call", x.count(2), 6);
    }

    private static UnseenClock blanks(int feeds) {
        UnseenClock x = new UnseenClock();
        for (int i = 0; i < feeds; i++) {
            x.feed(0x20202020, 0x20202020, 0x20202020, 0x20202020, 0x20202020);
        }
        return x;
    }

    private static void feeding() {
        Probe.sentence("Twenty bytes come behind the TAPE, four of each number, the highest first: how many it has");
        for (int place = 0; place < 20; place++) {
            for (int sign : new int[] {33, 128, 255, 0}) {
                int[] v = new int[5];
                for (int j = 0; j < 20; j++) {
                    v[j / 4] |= (j == place ? sign : j < place ? ' ' : '?') << 24 - 8 * (j % 4);
                }
                UnseenClock x = blanks(1);
                Probe.due("feed()", x.feed(v[0], v[1], v[2], v[3], v[4]), 40);
                x.square();
                Probe.due("fault(1), byte " + place + " being " + sign, x.fault(1), 20 + place);
            }
        }
        Probe.sentence("NONE, and none come, if it would have more than 2,400.");
        UnseenClock x = blanks(119);
        Probe.due("count(7)", x.count(7), 2380);
        Probe.due("feed() up to 2400", x.feed(0x20202020, 0x20202020, 0x20202020, 0x20202020, 0x2020203F), 2400);
        Probe.due("feed() beyond", x.feed(0x3F3F3F3F, 0, 0, 0, 0), NONE);
        Probe.due("count(7)", x.count(7), 2400);
        x.square();
        Probe.due("fault(1): the last of 2400 is the first that is no blank", x.fault(1), 2399);
        for (int n : new int[] {2381, 2390, 2399}) {
            x = blanks(120);
            x.end(n);
            Probe.due("feed() with " + n, x.feed(0x3F3F3F3F, 0x3F3F3F3F, 0x3F3F3F3F, 0x3F3F3F3F, 0x3F3F3F3F), NONE);
            Probe.due("count(7)", x.count(7), n);
            Probe.due("square() of blanks alone", x.square(), 0);
        }
        x = blanks(120);
        x.end(2379);
        Probe.due("feed() with 2379", x.feed(0, 0, 0, 0, 0), 2399);
    }

    private static void ending() {
        Probe.sentence("The TAPE has its first n bytes alone: n;");
        UnseenClock x = new UnseenClock();
        Probe.put(x, S + "nothing of this");
        Probe.due("end(31)", x.end(31), 31);
        Probe.due("count(7)", x.count(7), 31);
        Probe.due("end(31) again", x.end(31), 31);
        Probe.due("feed() behind", x.feed(0x20202020, 0x20202020, 0x20202020, 0x20202020, 0x20202020), 51);
        Probe.due("end(51), all", x.end(51), 51);
        Probe.due("square()", x.square(), 1);
        Probe.put(x, "?");
        Probe.due("end(0)", x.end(0), 0);
        Probe.due("count(7)", x.count(7), 0);
        Probe.sentence("NONE, and nothing happens, if it has not so many, or n is below 0.");
        Probe.leaves(31, "end(31)", y -> y.end(31));
        for (int n : new int[] {32, 2400, 2401, Probe.HIGHEST, -1, Probe.LOWEST}) {
            Probe.leaves(NONE, "end(" + n + ")", y -> y.end(n));
        }
        UnseenClock none = new UnseenClock();
        Probe.due("end(0) of an empty TAPE", none.end(0), 0);
        Probe.due("end(1) of an empty TAPE", none.end(1), NONE);
    }

    private static void squares() {
        Probe.sentence("The TAPE (empty then) is the SQUARE (in place of another): how many LINES; nobody is CALLED away.");
        UnseenClock x = Probe.standing();
        Probe.due("count(8)", x.count(8), 4);
        Probe.due("square()", x.square(), 1);
        Probe.due("count(7)", x.count(7), 0);
        Probe.due("count(8)", x.count(8), 0);
        int[] counts = {3, 3, 9, 0, 0, 0, 1};
        for (int what = 0; what < 7; what++) {
            Probe.due("count(" + what + ")", x.count(what), counts[what]);
        }
        Probe.due("at(0, 0)", x.at(0, 0), -2);
        Probe.due("shows(0, 0)", x.shows(0, 0), -2);
        Probe.due("square() of an empty TAPE", x.square(), 0);
        for (int what = 0; what < 9; what++) {
            Probe.due("count(" + what + ") without LINES", x.count(what), 0);
        }
        Probe.due("open()", x.open(), -2);
        Probe.due("back(1)", x.back(1), 0);
        Probe.due("count(6)", x.count(6), 17);
        x = new UnseenClock();
        Probe.put(x, S + "\n".repeat(2400 - 31 - 12) + "wall at 4 3;");
        Probe.due("count(7)", x.count(7), 2400);
        Probe.due("square() of 2400 bytes", x.square(), 2);
        Probe.sentence("-4: a FAULT (all stays).");
        faulty(S + "wall at 5 0;", 2, 39);
        faulty(S + S, 1, 31);
        faulty("?", 1, 0);
        faulty(S.replace(";", ""), 1, 30);
        faulty(S + CLOCK + PERSON + "look at 0 always;wait 3;go east 4;look at 1 always;", 2, 136);
        x = new UnseenClock();
        Probe.put(x, ";");
        Probe.due("square() of a ; alone", x.square(), -4);
        Probe.due("open(): still no SQUARE", x.open(), -2);
        Probe.due("count(7)", x.count(7), 0);
        Probe.put(x, S);
        Probe.due("square() of a text behind it", x.square(), 1);
    }

    /** One text behind the other, each cut to its own length, as ../shared/tests tell them: none is cleared away by end(0). */
    private static void textsInARow() {
        Probe.sentence("The TAPE (empty then)");
        String five = "square wide 5 long 5 minutes 6;";
        String[] texts = {
            "square wide 1", five + "wall at 1 1;wall at 1 1", five + "wall at 1 1?", five + "wall at 5", five + "wait", five + "clock at 0 0 pace 61", five + "person at 0 0 from 0;look at 0",
            five + "square", five + "clock at 0 0 pace 1 over 1 shows 9 from 9", five + "person at 0 0 from 0;" + "wait 1;".repeat(6) + "wait", "wall"
        };
        int[] faults = {2, 12, 2, 53, 1, 42, 2, 39, 2, 31, 2, 49, 2, 60, 1, 31, 2, 71, 3, 94, 1, 0};
        UnseenClock x = new UnseenClock();
        for (int i = 0; i < texts.length; i++) {
            tell(x, texts[i]);
            Probe.due("square() of '" + texts[i] + "'", x.square(), -4);
            Probe.due("fault(0) of '" + texts[i] + "'", x.fault(0), faults[2 * i]);
            Probe.due("fault(1) of '" + texts[i] + "'", x.fault(1), faults[2 * i + 1]);
        }
        Probe.due("count(6)", x.count(6), 0);
        tell(x, five + CLOCK);
        Probe.due("square()", x.square(), 2);
        tell(x, "wall");
        Probe.due("square()", x.square(), -4);
        Probe.dueRow("all stays, and the TAPE is empty", new int[] {x.count(2), x.count(3), x.count(6), x.count(7), x.shows(0, 6)}, 6, 1, 2, 0, 6);
        Probe.due("end(1)", x.end(1), NONE);
        Probe.due("square() of the empty TAPE", x.square(), 0);
        Probe.due("fault(0)", x.fault(0), 0);
        Probe.due("open(): no SQUARE", x.open(), -2);
    }

    private static void tell(UnseenClock x, String text) {
        int bytes = 0;
        for (int i = 0; i < text.length(); i += 20) {
            int[] v = new int[5];
            for (int j = 0; j < 20 && i + j < text.length(); j++) {
                v[j / 4] |= text.charAt(i + j) << 24 - 8 * (j % 4);
            }
            bytes += 20;
            Probe.due("feed()", x.feed(v[0], v[1], v[2], v[3], v[4]), bytes);
        }
        if (bytes != text.length()) {
            Probe.due("end()", x.end(text.length()), text.length());
        }
    }

    /** The rows of an object are used again: nothing of another text may be left in them, read whole or to a FAULT. */
    private static void squaresInPlace() {
        Probe.sentence("(in place of another)");
        String full = S + "wall at 3 3;" + CLOCK + "clock at 3 0 pace 60 over 12 shows 60 from 59;"
            + "person at 0 0 from 5;go east 12;go south 12;wait 40;wait 40;go west 1;wait 1;look at 0 always;look at 1 each 1 after 0;look at 0 maybe 100;look at 1 with 0;"
            + "person at 1 0 from 5;wait 40;look at 0 always;look at 1 unless 7;";
        UnseenClock x = new UnseenClock();
        for (int i = 0; i < 5; i++) {
            Probe.put(x, full + (i == 2 ? "look at 2 always;" : ""));
            Probe.due("square()", x.square(), i == 2 ? -4 : linesOf(full));
            x.end(0);
            x.call(0, true);
            x.mends(0, 7);
            Probe.square(x, "square wide 5 long 4 minutes 7", "clock at 1 1 pace 1 over 1 shows 9 from 0", "person at 0 0 from 0", "person at 3 3 from 6");
            int[] counts = {5, 4, 7, 1, 2, 0, 4, 0, 0, 0};
            for (int what = 0; what < 10; what++) {
                Probe.due("count(" + what + ")", x.count(what), counts[what]);
            }
            Probe.due("at(0, 1)", x.at(0, 1), NONE);
            Probe.due("at(1, 5)", x.at(1, 5), NONE);
            Probe.due("at(1, 6)", x.at(1, 6), 303);
            Probe.due("looks(0, 0, 0)", x.looks(0, 0, 0), 0);
            Probe.due("looks(1, 0, 6)", x.looks(1, 0, 6), 0);
            Probe.due("sees(0, 0, 0)", x.sees(0, 0, 0), 1);
            Probe.due("sees(0, 0, 5)", x.sees(0, 0, 5), 0);
            Probe.due("sees(1, 0, 5)", x.sees(1, 0, 5), 0);
            Probe.due("shows(0, 7)", x.shows(0, 7), 7);
            Probe.due("courses()", x.courses(), 1);
            Probe.due("day(1, 0, 7)", x.day(1, 0, 7), 7);
            Probe.due("shows(1, 0)", x.shows(1, 0), -2);
            Probe.due("spots(0)", x.spots(0), 12);
        }
        habitsInPlace();
    }

    /** A look that hangs on others, where ahead there were more: these would hold. */
    private static void habitsInPlace() {
        String more = S + CLOCK + PERSON + "look at 0 with 1;look at 0 unless 7;look at 0 unless 6;look at 0 unless 5;person at 2 2 from 0;look at 0 with 0;look at 0 unless 7;";
        String one = S + CLOCK + PERSON + "look at 0 with 1;person at 2 2 from 0;look at 0 with 0;";
        UnseenClock x = new UnseenClock();
        for (int i = 0; i < 3; i++) {
            Probe.put(x, more);
            x.square();
            Probe.due("eyes(0, 0)", x.eyes(0, 0), 2);
            Probe.due("courses()", x.courses(), 1);
            Probe.due("shows(0, 6)", x.shows(0, 6), 5);
            for (int again = 0; again < 2; again++) {
                Probe.put(x, one);
                x.square();
                Probe.due("eyes(0, 0)", x.eyes(0, 0), 0);
                Probe.due("open()", x.open(), 1);
                Probe.due("courses()", x.courses(), 2);
                Probe.due("shows(0, 6)", x.shows(0, 6), 6);
            }
        }
    }

    private static void latestFault() {
        Probe.sentence("Of the latest square(), what 0: its FAULT, 0 without, 1: its place (NONE without).");
        UnseenClock x = new UnseenClock();
        Probe.put(x, S + "wall at 9 9;");
        x.square();
        Probe.due("fault(0)", x.fault(0), 2);
        Probe.due("fault(1)", x.fault(1), 39);
        Probe.put(x, S);
        Probe.due("fault(0), of the square() ahead", x.fault(0), 2);
        x.square();
        Probe.due("fault(0)", x.fault(0), 0);
        Probe.due("fault(1)", x.fault(1), NONE);
        Probe.put(x, "wall");
        x.square();
        Probe.due("fault(0)", x.fault(0), 1);
        Probe.due("fault(1)", x.fault(1), 0);
        x.image(0);
        x.back(0);
        Probe.due("fault(0), an IMAGE gone back to", x.fault(0), 1);
        x.end(0);
        x.square();
        Probe.due("fault(0) of no LINES", x.fault(0), 0);
        Probe.due("fault(1) of no LINES", x.fault(1), NONE);
        Probe.sentence("NONE for another what, and ahead of any (what 1).");
        for (int what : new int[] {-1, 2, Probe.LOWEST, Probe.HIGHEST}) {
            Probe.leaves(NONE, "fault(" + what + ")", y -> y.fault(what));
        }
        Probe.leaves(1, "fault(0)", y -> y.fault(0));
        Probe.leaves(1, "fault(1)", y -> y.fault(1));
        x = new UnseenClock();
        Probe.due("fault(1) ahead of any", x.fault(1), NONE);
        Probe.due("fault(0) ahead of any", x.fault(0), 0);
    }

    // ---------------------------------------------------------------- section I: LINES

    private static void firstLine() {
        Probe.sentence("square is the first LINE and no other");
        taken(S);
        for (String line : new String[] {"wall at 1 1;", CLOCK, PERSON, "go east 1;", "wait 1;", "look at 0 always;"}) {
            faulty(line, 1, 0);
            faulty(line + S, 1, 0);
        }
        faulty(S + S, 1, 31);
        faulty(S + "wall at 1 1;" + S, 1, 43);
        faulty(S + "square", 1, 31);
        Probe.sentence("1 a TOKEN that is none, or can't stand there (square behind the first LINE, another word ahead of it).");
        faulty(";", 1, 0);
        faulty("7;", 1, 0);
        faulty(S + ";", 1, 31);
        faulty(S + "7", 1, 31);
        faulty(S + "walls at 1 1;", 1, 31);
        faulty(S + "wal at 1 1;", 1, 31);
        faulty(S + "Wall at 1 1;", 1, 31);
        faulty(S + "wall in 1 1;", 1, 36);
        faulty(S + "wall at 1 1 wall at 2 2;", 1, 43);
        faulty(S + "wall at 1 1;;", 1, 43);
        faulty("square long 5 wide 5 minutes 5;", 1, 7);
        faulty("square wide 5 wide 5 minutes 5;", 1, 14);
        faulty("square wide 5 long 5 hours 5;", 1, 21);
        faulty("square wide 5 long 5 minutes 5 5;", 1, 31);
        faulty(S + "clock at 1 1 over 1 pace 1 shows 9 from 0;", 1, 44);
        faulty(S + "clock at 1 1 pace 1 shows 9 from 0;", 1, 51);
        faulty(S + "clock at 1 1 pace 1 over 1 from 0;", 1, 58);
        faulty(S + "clock at 1 1 pace 1 over 1 shows 9;", 1, 65);
        faulty(S + "person at 1 1;", 1, 44);
        faulty(S + PERSON + "go 1;", 1, 55);
        faulty(S + PERSON + "go up 1;", 1, 55);
        faulty(S + PERSON + "go northwest 1;", 1, 55);
        faulty(S + PERSON + "wait east 1;", 1, 57);
        faulty(S + CLOCK + PERSON + "look 0 always;", 1, 99);
        faulty(S + CLOCK + PERSON + "look at 0;", 1, 103);
        faulty(S + CLOCK + PERSON + "look at 0 never;", 1, 104);
        faulty(S + CLOCK + PERSON + "look at 0 always 1;", 1, 111);
        faulty(S + CLOCK + PERSON + "look at 0 each 1;", 1, 110);
        faulty(S + CLOCK + PERSON + "look at 0 each 1 is 0;", 1, 111);
        faulty(S + CLOCK + PERSON + "look at 0 seeing 0 after 0;", 1, 113);
        faulty(S + CLOCK + PERSON + "look at 0 with 1 unless 0;", 1, 111);
    }

    private static void sizes() {
        Probe.sentence("wide, long 2 .. 12, minutes 5 .. 40");
        number("square wide ", " long 5 minutes 5;", 2, 12);
        number("square wide 5 long ", " minutes 5;", 2, 12);
        number("square wide 5 long 5 minutes ", ";", 5, 40);
        UnseenClock least = taken("square wide 2 long 2 minutes 5;");
        UnseenClock most = taken("square wide 12 long 12 minutes 40;");
        for (int what = 0; what < 3; what++) {
            Probe.due("count(" + what + ")", least.count(what), what == 2 ? 5 : 2);
            Probe.due("count(" + what + ")", most.count(what), what == 2 ? 40 : 12);
        }
        Probe.due("count(0), not long", taken("square wide 3 long 4 minutes 5;").count(0), 3);
        Probe.due("count(1), not wide", taken("square wide 3 long 4 minutes 5;").count(1), 4);
    }

    private static void cells() {
        Probe.sentence("X 0 .. wide less 1, Y 0 .. long less 1");
        String[] things = {"wall at ", "clock at ", "person at "};
        String[] ends = {";", " pace 1 over 1 shows 9 from 0;", " from 0;"};
        for (int i = 0; i < 3; i++) {
            number(S + things[i], " 0" + ends[i], 0, 4);
            number(S + things[i] + "0 ", ends[i], 0, 3);
            number("square wide 12 long 2 minutes 5;" + things[i], " 1" + ends[i], 0, 11);
            number("square wide 2 long 12 minutes 5;" + things[i] + "1 ", ends[i], 0, 11);
        }
        UnseenClock x = taken("square wide 12 long 12 minutes 5;person at 11 11 from 0;person at 0 11 from 0;person at 11 0 from 0;");
        Probe.due("at(0, 0)", x.at(0, 0), 1111);
        Probe.due("at(1, 0)", x.at(1, 0), 1100);
        Probe.due("at(2, 0)", x.at(2, 0), 11);
    }

    private static void freeCells() {
        Probe.sentence("a wall, a clock, a person on a CELL that is free yet (no wall, no clock on it)");
        String[] lines = {"wall at 1 1;", CLOCK, "person at 1 1 from 0;"};
        for (String first : lines) {
            for (String second : lines) {
                String ahead = S + first;
                if (first.startsWith("person")) {
                    taken(ahead + second);
                } else {
                    faulty(ahead + second, 2, ahead.length() + second.indexOf("1 1") + 2);
                }
                taken(ahead + second.replace("at 1 1", "at 1 2"));
                taken(ahead + second.replace("at 1 1", "at 2 1"));
            }
        }
        Probe.sentence("2 a number out of its bounds; Y of a CELL that is not free");
        faulty(S + "wall at 4 3;wall at 4 3;", 2, 53);
        faulty(S + "wall at 4 3;wall at 4 4;", 2, 53);
        faulty(S + "wall at 4 3;wall at 5 3;", 2, 51);
        faulty(S + "wall at 4 3;wall at 04 \n 003;", 2, 56);
        faulty(S + "wall at 0 0;wall at 0;", 1, 52);
        taken(S + "wall at 4 3;wall at 3 3;wall at 4 2;");
    }

    private static void clockNumbers() {
        Probe.sentence("pace 0 .. 60 over 1 .. 12; shows 2 .. 60; from 0 .. shows less 1.");
        number(S + "clock at 1 1 pace ", " over 1 shows 9 from 0;", 0, 60);
        number(S + "clock at 1 1 pace 1 over ", " shows 9 from 0;", 1, 12);
        number(S + "clock at 1 1 pace 1 over 1 shows ", " from 0;", 2, 60);
        number(S + "clock at 1 1 pace 1 over 1 shows 60 from ", ";", 0, 59);
        number(S + "clock at 1 1 pace 1 over 1 shows 2 from ", ";", 0, 1);
        number(S + CLOCK + "clock at 2 2 pace 1 over 1 shows 20 from ", ";", 0, 19);
        UnseenClock x = taken(S + "clock at 1 1 pace 60 over 12 shows 60 from 59;clock at 2 2 pace 0 over 1 shows 2 from 1;");
        Probe.due("value(0, 6, 0)", x.value(0, 6, 0), 89);
        Probe.due("value(0, 6, 2)", x.value(0, 6, 2), 12);
        Probe.due("shows(0, 6)", x.shows(0, 6), 29);
        Probe.due("mends(0, 60)", x.mends(0, 60), 60);
        Probe.due("shows(1, 6)", x.shows(1, 6), 1);
        Probe.due("value(1, 6, 2)", x.value(1, 6, 2), 1);
        Probe.due("mends(1, 0)", x.mends(1, 0), 0);
    }

    private static void personNumbers() {
        Probe.sentence("from of a person 0 .. minutes less 1.");
        number(S + "person at 1 1 from ", ";", 0, 5);
        number("square wide 2 long 2 minutes 40;person at 1 1 from ", ";", 0, 39);
        UnseenClock x = taken(S + "person at 1 1 from 5;wait 40;");
        Probe.due("at(0, 4)", x.at(0, 4), NONE);
        Probe.due("at(0, 5)", x.at(0, 5), 101);
        Probe.sentence("its N 1 .. 12, wait 1 .. 40");
        for (String way : new String[] {"north", "east", "south", "west"}) {
            number(S + PERSON + "go " + way + " ", ";", 1, 12);
        }
        number(S + PERSON + "wait ", ";", 1, 40);
        x = taken("square wide 12 long 12 minutes 40;person at 0 0 from 0;wait 1;person at 0 0 from 0;go east 1;wait 1;person at 0 0 from 0;go east 12;go west 12;wait 12;");
        Probe.due("at(0, 1)", x.at(0, 1), 0);
        Probe.due("at(0, 2)", x.at(0, 2), NONE);
        Probe.due("at(1, 2)", x.at(1, 2), 1);
        Probe.due("at(1, 3)", x.at(1, 3), NONE);
        Probe.due("at(2, 12)", x.at(2, 12), 11);
        Probe.due("at(2, 13)", x.at(2, 13), 10);
        Probe.due("at(2, 23)", x.at(2, 23), 0);
        Probe.due("at(2, 36)", x.at(2, 36), 0);
        Probe.due("at(2, 37)", x.at(2, 37), NONE);
    }

    private static void looksAt() {
        Probe.sentence("K a CLOCK told ahead.");
        String two = S + CLOCK + "clock at 3 3 pace 1 over 1 shows 9 from 0;" + PERSON;
        number(two + "look at ", " always;", 0, 1);
        number(two + "look at 1 seeing ", " is 0;", 0, 1);
        number(S + CLOCK + PERSON + "look at ", " always;", 0, 0);
        number(S + CLOCK + PERSON + "look at 0 seeing ", " is 0;", 0, 0);
        faulty(S + PERSON + "look at 0 always;" + CLOCK, 2, 60);
        faulty(S + CLOCK + PERSON + "look at 0 seeing 1 is 0;" + CLOCK.replace("at 1 1", "at 2 2"), 2, 111);
        taken(S + PERSON + CLOCK + "look at 0 always;" + CLOCK.replace("at 1 1", "at 2 2") + "look at 1 seeing 0 is 0;");
        StringBuilder four = new StringBuilder(S);
        for (int i = 0; i < 4; i++) {
            four.append(CLOCK.replace("at 1 1", "at " + i + " 2"));
        }
        number(four + PERSON + "look at ", " always;", 0, 3);
    }

    private static void habits() {
        Probe.sentence("each N 1 .. 40, after 0 .. 39, is 0 .. 59, P 0 .. 7, maybe 0 .. 100.");
        String look = S + CLOCK + PERSON + "look at 0 ";
        number(look + "each ", " after 0;", 1, 40);
        number(look + "each 40 after ", ";", 0, 39);
        number(look + "seeing 0 is ", ";", 0, 59);
        number(look + "with ", ";", 0, 7);
        number(look + "unless ", ";", 0, 7);
        number(look + "maybe ", ";", 0, 100);
        taken(look + "always;");
    }

    private static void limits() {
        Probe.sentence("CLOCKS 0 .. 3, PEOPLE 0 .. 7, at most 6 goes and waits, 4 looks for each, 12 walls.");
        StringBuilder b = new StringBuilder("square wide 12 long 12 minutes 40;");
        for (int i = 0; i < 12; i++) {
            b.append("wall at ").append(i).append(" 0;");
        }
        for (int i = 0; i < 4; i++) {
            b.append("clock at ").append(i).append(" 1 pace 1 over 1 shows 2 from 0;");
        }
        for (int i = 0; i < 8; i++) {
            b.append("person at ").append(i).append(" 2 from 0;go east 1;wait 1;go east 1;wait 1;wait 1;go south 1;").append(("look at " + i % 4 + " always;").repeat(4));
        }
        UnseenClock x = taken(b.toString());
        Probe.due("count(3)", x.count(3), 4);
        Probe.due("count(4)", x.count(4), 8);
        Probe.due("count(5)", x.count(5), 12);
        Probe.due("count(6)", x.count(6), 105);
        Probe.due("at(7, 6)", x.at(7, 6), 309);
        Probe.due("looks(7, 3, 0)", x.looks(7, 3, 0), 0);
        Probe.due("looks(3, 3, 0)", x.looks(3, 3, 0), 1);
        Probe.sentence("3 a 13th wall, 5th clock, 9th person, of one PERSON a 7th go or wait, a 5th look, at its word.");
        for (String word : new String[] {"wall", "clock", "person", "go", "wait", "look"}) {
            faulty(b + word, 3, b.length());
            faulty(b + " \n" + word + " at 99 99;", 3, b.length() + 2);
            faulty(b + word + "?", 3, b.length());
        }
        String walls = b.substring(0, b.indexOf("clock"));
        String eleven = walls.substring(0, walls.lastIndexOf("wall"));
        taken(eleven + "wall at 0 11;");
        faulty(walls + "wall at 0 11;", 3, walls.length());
        String clocks = b.substring(0, b.indexOf("person"));
        String three = clocks.substring(0, clocks.lastIndexOf("clock"));
        taken(three + "clock at 0 11 pace 1 over 1 shows 2 from 0;");
        faulty(clocks + "clock at 0 11 pace 1 over 1 shows 2 from 0;", 3, clocks.length());
        String seven = b.substring(0, b.lastIndexOf("person"));
        taken(seven + "person at 0 11 from 0;");
        faulty(seven + "person at 0 11 from 0;person at 0 11 from 0;", 3, seven.length() + 22);
        String one = S + CLOCK + PERSON;
        for (String move : new String[] {"go east 1;", "wait 1;"}) {
            taken(one + move.repeat(5) + "go west 1;" + PERSON + move);
            taken(one + move.repeat(5) + "wait 1;" + PERSON + move);
            faulty(one + move.repeat(6) + "go west 1;", 3, one.length() + 6 * move.length());
            faulty(one + move.repeat(6) + "wait 1;", 3, one.length() + 6 * move.length());
        }
        taken(one + "look at 0 always;".repeat(4) + PERSON + "look at 0 always;".repeat(4));
        faulty(one + "look at 0 always;".repeat(5), 3, one.length() + 68);
        faulty(one + PERSON + "look at 0 always;".repeat(5), 3, one.length() + 21 + 68);
        taken(one + "look at 0 always;".repeat(4) + "wait 1;".repeat(6) + "wall at 4 3;");
    }

    private static void ofTheLatestPerson() {
        Probe.sentence("both of the latest PERSON, one behind the other. look: of the latest PERSON");
        UnseenClock x = taken(S + CLOCK + PERSON + "wait 1;person at 2 0 from 0;wall at 4 3;go south 1;look at 0 always;go east 1;");
        Probe.due("at(0, 1)", x.at(0, 1), 0);
        Probe.due("at(0, 2)", x.at(0, 2), NONE);
        Probe.due("at(1, 0)", x.at(1, 0), 2);
        Probe.due("at(1, 1)", x.at(1, 1), 102);
        Probe.due("at(1, 2)", x.at(1, 2), 103);
        Probe.due("at(1, 3)", x.at(1, 3), NONE);
        Probe.due("looks(0, 0, 0)", x.looks(0, 0, 0), 0);
        Probe.due("looks(1, 0, 0)", x.looks(1, 0, 0), 1);
        Probe.sentence("go, wait, look without a PERSON (at the word).");
        for (String word : new String[] {"go", "wait", "look"}) {
            faulty(S + word, 2, 31);
            faulty(S + CLOCK + word + " at 0 always;", 2, 31 + CLOCK.length());
            faulty(S + CLOCK + " " + word + " ?", 2, 32 + CLOCK.length());
            faulty(S + CLOCK + word + " 1;" + PERSON, 2, 31 + CLOCK.length());
        }
        taken(S + CLOCK + PERSON + "go east 1;wait 1;look at 0 always;");
    }

    // ---------------------------------------------------------------- section I: TOKENS and FAULTS

    private static void tokens() {
        Probe.sentence("TOKENS, blanks (32, 10) aside, the longest: words (a .. z), numbers (digits), the sign ; .");
        taken(" \n square\nwide 5\n\nlong\n4 minutes 6 ; \n");
        taken("square wide5long4minutes6;wall at1 1;");
        taken("square wide 005 long 00000000000000000000000000000004 minutes 06;");
        taken(" ");
        taken("\n");
        taken(S + "  \n  ");
        for (int sign = 0; sign < 256; sign++) {
            boolean fits = sign == 32 || sign == 10;
            boolean token = sign >= 'a' && sign <= 'z' || sign >= '0' && sign <= '9' || sign == ';';
            if (fits) {
                taken(S + (char) sign + "wall at 1 1;");
            } else if (!token) {
                faulty(S + (char) sign + "wall at 1 1;", 1, 31);
                faulty("square wide 5" + (char) sign + " long 4 minutes 6;", 1, 13);
            }
        }
        words();
        faulty("squarewide 5 long 4 minutes 6;", 1, 0);
        faulty("square wide 1 2 long 4 minutes 6;", 2, 12);
        faulty("square wide 5 long 4 minutes 6a;", 1, 30);
        faulty("squ are wide 5 long 4 minutes 6;", 1, 0);
        faulty("square wide 5 long 4 minutes 3 6;", 2, 29);
        faulty("square wide 5 long 4 minutes 6:", 1, 30);
        faulty(S + "a", 1, 31);
        faulty(S + "z", 1, 31);
        faulty(S + "0", 1, 31);
        faulty(S + "9", 1, 31);
    }

    /** Each word of the document, whole, and with another first or last letter, or one more, or one less. */
    private static void words() {
        String head = S + CLOCK + PERSON;
        String[] texts = {
            "square wide 5 long 4 minutes 6;", S + "wall at 2 2;", S + "clock at 1 1 pace 1 over 1 shows 9 from 0;", S + "person at 0 0 from 0;", head + "go north 1;", head + "go east 1;", head + "go south 1;",
            head + "go west 1;", head + "wait 1;", head + "look at 0 always;", head + "look at 0 each 1 after 0;", head + "look at 0 seeing 0 is 0;", head + "look at 0 with 0;", head + "look at 0 unless 0;", head + "look at 0 maybe 0;"
        };
        for (String text : texts) {
            int from = text.lastIndexOf(';', text.length() - 2) + 1;
            java.util.regex.Matcher word = java.util.regex.Pattern.compile("[a-z]+").matcher(text.substring(from));
            taken(text);
            while (word.find()) {
                int place = from + word.start();
                int end = from + word.end();
                String ahead = text.substring(0, place);
                String behind = text.substring(end);
                String told = word.group();
                String[] others = {
                    (char) (told.charAt(0) == 'z' ? 'a' : told.charAt(0) + 1) + told.substring(1), told.substring(0, told.length() - 1) + (char) (told.charAt(told.length() - 1) - 1),
                    told + "z", told + "a", "a" + told, "z" + told, told.substring(1), told.substring(0, told.length() - 1), told.toUpperCase()
                };
                for (String other : others) {
                    faulty(ahead + other + behind, 1, place);
                }
            }
        }
    }

    private static void placesOfFaults() {
        Probe.sentence("FAULTS, the first by its place (a TOKEN's first byte; the end's), of one place the least");
        String whole = S.substring(0, 30);
        faulty(whole, 1, 30);
        faulty(whole + " ", 1, 31);
        faulty(whole + " \n\n", 1, 33);
        faulty("s", 1, 0);
        faulty("square", 1, 6);
        faulty("square wide 5 long 4 minutes", 1, 28);
        faulty("\n square", 1, 8);
        faulty(S + "wall at 9 9;wall at 9 9;", 2, 39);
        faulty(S + "wall at 4 9 ?", 2, 41);
        faulty(S + "wall at 9 ?", 2, 39);
        faulty(S + "go ?", 2, 31);
        faulty("square wide 99 ?", 2, 12);
        faulty("go north 1;", 1, 0);
        faulty("look", 1, 0);
        faulty("wait 99;", 1, 0);
        faulty(S + "wall at 4 3 99;", 1, 43);
        StringBuilder walls = new StringBuilder("square wide 12 long 12 minutes 40;");
        for (int i = 0; i < 12; i++) {
            walls.append("wall at ").append(i).append(" 0;");
        }
        faulty(walls + "wall at 0 0;", 3, walls.length());
        faulty(walls + "wall", 3, walls.length());
        faulty(walls + "wait 1;wall", 2, walls.length());
        faulty("square wide 2 long 2 minutes 5;wall at 9 9;" + walls, 2, 39);
        // behind the end lie bytes of an earlier text, which are none of this one
        UnseenClock x = new UnseenClock();
        Probe.put(x, S + "wall at 1 1;");
        x.end(38);
        Probe.due("square()", x.square(), -4);
        Probe.due("fault(1): the end", x.fault(1), 38);
        Probe.put(x, S);
        x.end(30);
        Probe.due("square()", x.square(), -4);
        Probe.due("fault(1): the end", x.fault(1), 30);
        Probe.put(x, S);
        x.end(29);
        x.square();
        Probe.due("fault(0): no number at all", x.fault(0), 1);
        Probe.due("fault(1): the end", x.fault(1), 29);
    }
}
