import java.util.function.IntSupplier;

/** For each promise answers that were worked out by hand from the document: ordinary ones, edges, wrong inputs. */
public final class PromisesTest {
    private static int wrong = 0;
    private static int promise = 0;

    private static final int NONE = UnseenClock.NONE;

    /*
     * Person 1 is in MINUTES 0 and 1 at 2 0, in 2 and 3 at 2 1 (the first clock stops him); he looks at clock 0 in 0 and 2,
     * and at clock 1 in 1, since he saw a 7. Person 0 is at 0 2 in 3, at 1 2 in 4 and 5, and looks at clock 0.
     * Clock 0 goes on only in 1: 7 7 8 8 8 8 8; clock 1 always but in 1: 4 0 0 1 2 3 4.
     */
    private static final String PLAZA =
        "square wide 5 long 4 minutes 6;wall at 1 1;"
        + "clock at 2 2 pace 3 over 2 shows 12 from 7;clock at 4 0 pace 1 over 1 shows 5 from 4;"
        + "person at 0 2 from 3;go east 1;wait 1;look at 0 always;"
        + "person at 2 0 from 0;wait 1;go south 2;look at 0 each 2 after 0;look at 1 seeing 0 is 7;";

    /* Two who look unless the other does, in each of five MINUTES: 32 COURSES, and the clock never goes on. */
    private static final String UNLESS =
        "square wide 5 long 5 minutes 5;clock at 2 2 pace 1 over 1 shows 12 from 0;"
        + "person at 0 0 from 0;wait 4;look at 0 unless 1;person at 4 4 from 0;wait 4;look at 0 unless 0;";

    /* Two who look with each other in MINUTE 0, and a third who sees nothing: two COURSES, 5 or 4 at the end. */
    private static final String WITH =
        "square wide 5 long 5 minutes 5;clock at 2 2 pace 1 over 1 shows 12 from 0;"
        + "person at 0 0 from 0;look at 0 with 1;person at 4 4 from 0;look at 0 with 0;person at 0 1 from 0;";

    private static void due(String what, int got, int want) {
        if (got != want) {
            wrong++;
            System.out.println("promise " + promise + ": " + what + " answered " + got + ", due is " + want);
        }
    }

    private static void put(UnseenClock x, String text) {
        byte[] t = text.getBytes(java.nio.charset.StandardCharsets.ISO_8859_1);
        int was = x.count(7);
        for (int i = 0; i < t.length; i += 20) {
            int[] v = new int[5];
            for (int j = 0; j < 20 && i + j < t.length; j++) {
                v[j / 4] |= (t[i + j] & 255) << 24 - 8 * (j % 4);
            }
            x.feed(v[0], v[1], v[2], v[3], v[4]);
        }
        x.end(was + t.length);
    }

    private static UnseenClock of(String text) {
        UnseenClock x = new UnseenClock();
        put(x, text);
        if (x.square() < 1) {
            wrong++;
            System.out.println("a FAULT, " + x.fault(0) + " at " + x.fault(1) + ", in: " + text);
        }
        return x;
    }

    /** A row of SIGHTINGS in a SLOT. */
    private static void sightings(UnseenClock x, int slot, int... numbers) {
        x.row(slot, 0, numbers.length);
        for (int i = 0; i < numbers.length; i++) {
            x.write(slot, i, numbers[i]);
        }
    }

    private static void faultDue(String text, int kind, int place) {
        UnseenClock x = new UnseenClock();
        put(x, text);
        int answer = x.square();
        due("square() of '" + text + "'", answer < 0 ? answer : 0, kind == 0 ? 0 : -4);
        due("fault(0) of '" + text + "'", x.fault(0), kind);
        due("fault(1) of '" + text + "'", x.fault(1), place);
    }

    public static void main(String[] args) {
        tape();
        faults();
        limits();
        places();
        sight();
        plain();
        settling();
        courses();
        sightings();
        knowledge();
        lies();
        calledAway();
        keepers();
        paces();
        days();
        images();
        slots();
        System.out.println(wrong == 0 ? "all promises hold" : wrong + " answers are not as due");
        if (wrong != 0) {
            System.exit(1);
        }
    }

    private static void tape() {
        promise = 1;
        UnseenClock x = new UnseenClock();
        for (int i = 0; i < 10; i++) {
            due("count(" + i + ")", x.count(i), 0);
        }
        due("courses()", x.courses(), -2);
        due("agree(0)", x.agree(0), -2);
        due("all(1, 0, 0)", x.all(1, 0, 0), -2);
        due("hush(1, 0, 0, 0)", x.hush(1, 0, 0, 0), -2);
        promise = 2;
        for (int i = 1; i <= 120; i++) {
            due("feed " + i, x.feed(0x20202020, 0x0A202020, 0x20202020, 0x20202020, 0x20202020), 20 * i);
        }
        due("feed 121", x.feed(0, 0, 0, 0, 0), NONE);
        due("count(7)", x.count(7), 2400);
        due("end(2381)", x.end(2381), 2381);
        due("feed beyond 2400", x.feed(0, 0, 0, 0, 0), NONE);
        due("count(7)", x.count(7), 2381);
        due("end(2380)", x.end(2380), 2380);
        due("feed up to 2400", x.feed(0x20202020, 0x20202020, 0x20202020, 0x20202020, 0x2020203B), 2400);
        promise = 3;
        due("end(-1)", x.end(-1), NONE);
        due("end(2401)", x.end(2401), NONE);
        due("count(7)", x.count(7), 2400);
        due("end(2400)", x.end(2400), 2400);
        promise = 4;
        due("square() of blanks and a ;", x.square(), -4);
        due("its place", x.fault(1), 2399);
        due("count(7)", x.count(7), 0);
        for (int i = 1; i <= 120; i++) {
            x.feed(0x20202020, 0x0A202020, 0x20202020, 0x20202020, 0x20202020);
        }
        due("end(2399)", x.end(2399), 2399);
        due("square() of blanks", x.square(), 0);
        due("count(7)", x.count(7), 0);
        due("open()", x.open(), -2);
        put(x, PLAZA);
        due("square()", x.square(), 13);
        due("count(7)", x.count(7), 0);
        x.call(1, true);
        put(x, WITH);
        due("square() in place of another", x.square(), 7);
        due("count(8)", x.count(8), 0);
        due("count(2)", x.count(2), 5);
        x.call(2, true);
        put(x, "square wide 5 long;");
        due("square() with a FAULT", x.square(), -4);
        due("count(2) stays", x.count(2), 5);
        due("count(8) stays", x.count(8), 4);
        due("count(7), empty then", x.count(7), 0);
        due("end(19)", x.end(19), NONE);
        put(x, "square wide 5 long 5 minutes 7;");
        due("square() behind a FAULT", x.square(), 1);
        due("count(2)", x.count(2), 7);
        due("square() of nothing", x.square(), 0);
        for (int i = 0; i < 7; i++) {
            due("count(" + i + ")", x.count(i), 0);
        }
        due("courses()", x.courses(), -2);
        promise = 3;
        x.feed(0, 0, 0, 0, 0);
        due("end(0)", x.end(0), 0);
        due("count(7)", x.count(7), 0);
        due("end(0) again", x.end(0), 0);
        promise = 46;
        UnseenClock y = of(PLAZA);
        int[] counts = {5, 4, 6, 2, 2, 1, 13, 0, 0, 0};
        for (int i = 0; i < counts.length; i++) {
            due("count(" + i + ")", y.count(i), counts[i]);
        }
        due("count(10)", y.count(10), NONE);
        due("count(-1)", y.count(-1), NONE);
    }

    private static final String S = "square wide 5 long 4 minutes 6;";

    private static void faults() {
        promise = 5;
        UnseenClock x = new UnseenClock();
        due("fault(0) ahead of any", x.fault(0), 0);
        due("fault(1) ahead of any", x.fault(1), NONE);
        due("fault(2)", x.fault(2), NONE);
        due("fault(-1)", x.fault(-1), NONE);
        faultDue("", 0, NONE);
        faultDue(" \n ", 0, NONE);
        faultDue(S, 0, NONE);
        faultDue("square\nwide5long4minutes06 ;", 0, NONE);
        faultDue("wall at 1 1;", 1, 0);
        faultDue(" go north 1;", 1, 1);
        faultDue(";", 1, 0);
        faultDue("square", 1, 6);
        faultDue("square  ", 1, 8);
        faultDue("square wide 5 long 4 minutes 6", 1, 30);
        faultDue("squarewide 5", 1, 0);
        faultDue("square wide five", 1, 12);
        faultDue("square wide -5", 1, 12);
        faultDue("square wide 5\t", 1, 13);
        faultDue("Square", 1, 0);
        faultDue("square wide 1", 2, 12);
        faultDue("square wide 13", 2, 12);
        faultDue("square wide 99999999999999999999", 2, 12);
        faultDue("square wide 4294967301", 2, 12);
        faultDue("square wide 2 long 1", 2, 19);
        faultDue("square wide 2 long 12 minutes 4", 2, 30);
        faultDue("square wide 2 long 12 minutes 41", 2, 30);
        faultDue(S + S, 1, 31);
        faultDue(S + ";", 1, 31);
        faultDue(S + "tree at 1 1;", 1, 31);
        faultDue(S + "ball at 1 1;", 1, 31);
        faultDue(S + "wallz at 1 1;", 1, 31);
        faultDue(S + "wall at 5 0;", 2, 39);
        faultDue(S + "wall at 4 4;", 2, 41);
        faultDue(S + "wall at 4 3 3;", 1, 43);
        faultDue(S + "wall at 4;", 1, 40);
        faultDue(S + "wall at 1 1;wall at 1 1;", 2, 53);
        faultDue(S + "wall at 1 1;person at 1 1 from 0;", 2, 55);
        faultDue(S + "person at 1 1 from 0;wall at 1 1;person at 0 1 from 0;person at 0 1 from 5;clock at 0 1 pace 1 over 1 shows 2 from 1;", 0, NONE);
        faultDue(S + "clock at 1 1 pace 61", 2, 49);
        faultDue(S + "clock at 1 1 pace 60 over 0", 2, 57);
        faultDue(S + "clock at 1 1 pace 60 over 13", 2, 57);
        faultDue(S + "clock at 1 1 pace 60 over 12 shows 1 from 0;", 2, 66);
        faultDue(S + "clock at 1 1 pace 60 over 12 shows 61 from 0;", 2, 66);
        faultDue(S + "clock at 1 1 pace 60 over 12 shows 60 from 60;", 2, 74);
        faultDue(S + "clock at 1 1 pace 0 over 12 shows 60 from 59;wall at 1 1;", 2, 86);
        faultDue(S + "person at 1 1 from 6;", 2, 50);
        faultDue(S + "person at 1 1 at 5;", 1, 45);
        faultDue(S + "go up 1;", 2, 31);
        faultDue(S + "wait 0;", 2, 31);
        faultDue(S + "look at 0 always;", 2, 31);
        String p = S + "person at 0 0 from 0;";
        faultDue(p + "go up 1;", 1, 55);
        faultDue(p + "go west 0;", 2, 60);
        faultDue(p + "go west 13;", 2, 60);
        faultDue(p + "go north 12;go south 1;wait 40;", 0, NONE);
        faultDue(p + "wait 0;", 2, 57);
        faultDue(p + "wait 41;", 2, 57);
        faultDue(p + "look at 0 always;", 2, 60);
        String c = S + "clock at 1 1 pace 1 over 1 shows 9 from 0;person at 0 0 from 0;";
        faultDue(c + "look at 1 always;", 2, 102);
        faultDue(c + "look at 0 always 1;", 1, 111);
        faultDue(c + "look at 0 never;", 1, 104);
        faultDue(c + "look at 0;", 1, 103);
        faultDue(c + "look at 0 each 0 after 0;", 2, 109);
        faultDue(c + "look at 0 each 41 after 0;", 2, 109);
        faultDue(c + "look at 0 each 40 after 40;", 2, 118);
        faultDue(c + "look at 0 seeing 1 is 0;", 2, 111);
        faultDue(c + "look at 0 seeing 0 is 60;", 2, 116);
        faultDue(c + "look at 0 seeing 0 after 6;", 1, 113);
        faultDue(c + "look at 0 with 8;", 2, 109);
        faultDue(c + "look at 0 unless 8;", 2, 111);
        faultDue(c + "look at 0 maybe 101;", 2, 110);
        faultDue(c + "look at 0 each 40 after 39;look at 0 seeing 0 is 59;look at 0 with 7;look at 0 maybe 100;", 0, NONE);
        faultDue(c + "look at 0 each 1 after 0;", 0, NONE);
        faultDue(c + "look at 0 unless 7;go east 1;look at 0 maybe 0;wait 1;", 0, NONE);
        x = new UnseenClock();
        put(x, S + "\u00e9");
        x.square();
        due("fault(1)", x.fault(1), 31);
        x.end(31);
        x.square();
        due("fault(0) of the latest", x.fault(0), 0);
        due("fault(1) of the latest", x.fault(1), NONE);
    }

    private static void limits() {
        StringBuilder b = new StringBuilder("square wide 12 long 12 minutes 40;");
        for (int i = 0; i < 12; i++) {
            b.append("wall at ").append(i).append(" 0;");
        }
        faultDue(b.toString(), 0, NONE);
        faultDue(b + "wall at 0 0;", 3, b.length());
        for (int i = 0; i < 4; i++) {
            b.append("clock at ").append(i).append(" 1 pace 1 over 1 shows 2 from 0;");
        }
        faultDue(b.toString(), 0, NONE);
        faultDue(b + "clock", 3, b.length());
        for (int i = 0; i < 8; i++) {
            b.append("person at ").append(i).append(" 2 from 0;");
        }
        faultDue(b.toString(), 0, NONE);
        faultDue(b + "person", 3, b.length());
        for (int i = 0; i < 3; i++) {
            b.append("go east 1;look at 3 always;wait 1;");
        }
        b.append("look at 0 always;");
        faultDue(b.toString(), 0, NONE);
        faultDue(b + "go", 3, b.length());
        faultDue(b + "wait", 3, b.length());
        faultDue(b + "look", 3, b.length());
        faultDue("square wide 2 long 2 minutes 5;person at 0 0 from 0;wait 1;wait 1;wait 1;wait 1;wait 1;wait 1;person at 0 0 from 0;wait 1;", 0, NONE);
    }

    private static void places() {
        promise = 6;
        UnseenClock x = of(PLAZA);
        int[] first = {NONE, NONE, NONE, 200, 201, 201};
        int[] second = {2, 2, 102, 102, NONE, NONE};
        for (int m = 0; m < 6; m++) {
            due("at(0, " + m + ")", x.at(0, m), first[m]);
            due("at(1, " + m + ")", x.at(1, m), second[m]);
        }
        due("at(2, 0)", x.at(2, 0), -2);
        due("at(-1, 0)", x.at(-1, 0), -2);
        due("at(0, 6)", x.at(0, 6), -2);
        due("at(0, -1)", x.at(0, -1), -2);
        x.call(0, true);
        due("at(0, 3), CALLED away", x.at(0, 3), NONE);
        UnseenClock y = of("square wide 3 long 2 minutes 10;person at 1 0 from 0;go north 1;go west 2;go south 2;go east 1;wait 2;wall at 1 1;");
        int[] way = {1, 1, 0, 0, 100, 100, 100, 100, 100, NONE};
        for (int m = 0; m < 10; m++) {
            due("at(0, " + m + ")", y.at(0, m), way[m]);
        }
        promise = 29;
        UnseenClock z = of("square wide 5 long 5 minutes 6;person at 0 0 from 0;go east 4;person at 2 1 from 1;wait 3;person at 4 4 from 5;");
        due("meets(0, 1)", z.meets(0, 1), 3);
        due("meets(1, 0)", z.meets(1, 0), 3);
        z.call(0, true);
        due("meets(0, 1), CALLED away", z.meets(0, 1), 3);
        due("meets(0, 2)", z.meets(0, 2), 0);
        UnseenClock near = of("square wide 9 long 9 minutes 8;person at 1 1 from 0;wait 7;person at 0 0 from 0;person at 1 3 from 0;go north 1;go south 1;person at 2 1 from 7;person at 5 5 from 0;wait 7;");
        due("meets(0, 1), slanting, in the first MINUTE", near.meets(0, 1), 1);
        due("meets(1, 0)", near.meets(1, 0), 1);
        due("meets(0, 2), two rows on at first and at last", near.meets(0, 2), 1);
        due("meets(0, 3), side by side, in the last MINUTE", near.meets(0, 3), 1);
        due("meets(0, 4)", near.meets(0, 4), 0);
        due("meets(1, 3)", near.meets(1, 3), 0);
        due("meets(0, 0)", z.meets(0, 0), -2);
        due("meets(0, 3)", z.meets(0, 3), -2);
        due("meets(-1, 0)", z.meets(-1, 0), -2);
    }

    private static void sight() {
        promise = 7;
        UnseenClock x = of(PLAZA);
        due("sees(0, 0, 3)", x.sees(0, 0, 3), 1);
        due("sees(0, 0, 2)", x.sees(0, 0, 2), 0);
        due("sees(0, 1, 3)", x.sees(0, 1, 3), 0);
        due("sees(1, 0, 0)", x.sees(1, 0, 0), 1);
        due("sees(1, 1, 1)", x.sees(1, 1, 1), 1);
        due("sees(1, 1, 2)", x.sees(1, 1, 2), 0);
        x.call(1, true);
        due("sees(1, 0, 0), CALLED away", x.sees(1, 0, 0), 0);
        due("sees(2, 0, 0)", x.sees(2, 0, 0), -2);
        due("sees(0, 2, 0)", x.sees(0, 2, 0), -2);
        due("sees(0, 0, 6)", x.sees(0, 0, 6), -2);
        due("sees(0, -1, 0)", x.sees(0, -1, 0), -2);
        // a slanting line, once free, once with a wall, once with a clock between; and a CLOCK on one's own CELL
        UnseenClock y = of("square wide 7 long 7 minutes 5;clock at 3 3 pace 1 over 1 shows 9 from 0;wall at 5 1;clock at 2 4 pace 1 over 1 shows 9 from 0;"
            + "person at 0 0 from 0;person at 6 0 from 0;person at 0 6 from 0;person at 6 6 from 0;clock at 6 6 pace 1 over 1 shows 9 from 0;person at 1 5 from 0;wall at 1 5;");
        due("sees(0, 0, 0), slanting", y.sees(0, 0, 0), 1);
        due("sees(1, 0, 0), a wall between", y.sees(1, 0, 0), 0);
        due("sees(2, 0, 0), a clock between", y.sees(2, 0, 0), 0);
        due("sees(3, 0, 0), from another clock's CELL", y.sees(3, 0, 0), 1);
        due("sees(3, 2, 0), from its own CELL", y.sees(3, 2, 0), 0);
        due("sees(4, 1, 0), from a wall's CELL", y.sees(4, 1, 0), 1);
        due("sees(2, 1, 0), a wall between", y.sees(2, 1, 0), 0);
        promise = 30;
        due("spots(0)", x.spots(0), 10);
        due("spots(1)", x.spots(1), 8);
        due("spots(2)", x.spots(2), -2);
        due("spots(-1)", x.spots(-1), -2);
    }

    private static void plain() {
        UnseenClock x = of(PLAZA);
        promise = 8;
        int[][] looks = {{0, 0, 0, 1, 1, 1}, {0, 0, 0, 0, 0, 0}, {1, 0, 1, 0, 0, 0}, {0, 1, 0, 0, 0, 0}};
        for (int i = 0; i < 4; i++) {
            for (int m = 0; m < 6; m++) {
                due("looks(" + i / 2 + ", " + i % 2 + ", " + m + ")", x.looks(i / 2, i % 2, m), looks[i][m]);
            }
        }
        due("looks(2, 0, 0)", x.looks(2, 0, 0), -2);
        due("looks(0, 2, 0)", x.looks(0, 2, 0), -2);
        due("looks(0, 0, 6)", x.looks(0, 0, 6), -2);
        promise = 9;
        UnseenClock w = of(UNLESS.replace("unless 1", "always").replace("unless 0", "with 0"));
        due("eyes(0, 0)", w.eyes(0, 0), 2);
        int[] eyes = {1, 0, 1, 1, 1, 1};
        for (int m = 0; m < 6; m++) {
            due("eyes(0, " + m + ")", x.eyes(0, m), eyes[m]);
        }
        due("eyes(0, 6)", x.eyes(0, 6), -2);
        due("eyes(2, 0)", x.eyes(2, 0), -2);
        promise = 10;
        int[][] shows = {{7, 7, 8, 8, 8, 8, 8}, {4, 0, 0, 1, 2, 3, 4}};
        for (int m = 0; m <= 6; m++) {
            due("shows(0, " + m + ")", x.shows(0, m), shows[0][m]);
            due("shows(1, " + m + ")", x.shows(1, m), shows[1][m]);
        }
        due("shows(0, 7)", x.shows(0, 7), -2);
        due("shows(0, -1)", x.shows(0, -1), -2);
        due("shows(2, 0)", x.shows(2, 0), -2);
        promise = 11;
        due("value(0, 1, 0)", x.value(0, 1, 0), 7);
        due("value(0, 1, 1)", x.value(0, 1, 1), 0);
        due("value(0, 6, 0)", x.value(0, 6, 0), 8);
        due("value(0, 6, 1)", x.value(0, 6, 1), 1);
        due("value(0, 6, 2)", x.value(0, 6, 2), 2);
        due("value(1, 6, 0)", x.value(1, 6, 0), 9);
        due("value(0, 6, 3)", x.value(0, 6, 3), -2);
        due("value(0, 6, -1)", x.value(0, 6, -1), -2);
        due("value(0, 7, 0)", x.value(0, 7, 0), -2);
        due("value(2, 0, 0)", x.value(2, 0, 0), -2);
        promise = 12;
        due("still(0, 0)", x.still(0, 0), 5);
        due("still(0, 1)", x.still(0, 1), 4);
        due("still(0, 2)", x.still(0, 2), 1);
        due("still(1, 0)", x.still(1, 0), 1);
        due("still(1, 1)", x.still(1, 1), 1);
        due("still(1, 2)", x.still(1, 2), 0);
        due("still(0, 2), always looked at", w.still(0, 2), NONE);
        due("still(0, 1), always looked at", w.still(0, 1), 5);
        due("still(0, 3)", x.still(0, 3), -2);
        due("still(2, 0)", x.still(2, 0), -2);
        promise = 15;
        due("bell(1, 8)", x.bell(1, 8), 2);
        due("bell(1, 4)", x.bell(1, 4), 0);
        due("bell(1, 0)", x.bell(1, 0), 1);
        due("bell(2, 4)", x.bell(2, 4), NONE);
        due("bell(1, 59)", x.bell(1, 59), NONE);
        due("bell(4, 8)", x.bell(4, 8), NONE);
        due("bell(5, 8)", x.bell(5, 8), -2);
        due("bell(0, 8)", x.bell(0, 8), -2);
        due("bell(1, 60)", x.bell(1, 60), -2);
        due("bell(1, -1)", x.bell(1, -1), -2);
        UnseenClock two = of("square wide 3 long 3 minutes 5;clock at 0 0 pace 1 over 1 shows 9 from 0;clock at 2 2 pace 1 over 2 shows 9 from 2;clock at 1 1 pace 0 over 1 shows 9 from 4;");
        due("bell(2, 4)", two.bell(2, 4), 4);
        due("bell(3, 4)", two.bell(3, 4), 4);
        due("bell(1, 5)", two.bell(1, 5), 5);
        promise = 12;
        due("still(0, 0), never looked at", two.still(0, 0), 0);
        due("still(0, 1), never looked at", two.still(0, 1), 0);
        due("still(0, 2), never looked at", two.still(0, 2), 0);
        promise = 31;
        due("when(0, 8)", x.when(0, 8), 2);
        due("when(1, 4)", x.when(1, 4), 0);
        due("when(0, 9)", x.when(0, 9), NONE);
        due("when(2, 4)", x.when(2, 4), -2);
        due("when(0, 5) at the end", two.when(0, 5), 5);
        promise = 32;
        due("hours(0)", x.hours(0), 2);
        due("hours(1)", x.hours(1), 5);
        due("hours(2)", x.hours(2), -2);
        due("hours(0)", two.hours(0), 6);
    }

    private static void settling() {
        promise = 8;
        UnseenClock x = of(UNLESS);
        due("looks(0, 0, 0)", x.looks(0, 0, 0), 2);
        due("looks(1, 0, 0)", x.looks(1, 0, 0), 1);
        due("shows(0, 5)", x.shows(0, 5), 0);
        UnseenClock nobody = of("square wide 3 long 3 minutes 5;clock at 1 1 pace 1 over 1 shows 9 from 0;person at 0 0 from 0;wait 4;look at 0 unless 5;person at 2 2 from 1;look at 0 with 6;");
        due("unless somebody who is not", nobody.looks(0, 0, 0), 1);
        due("with somebody who is not", nobody.looks(1, 0, 1), 0);
        UnseenClock hides = of("square wide 4 long 3 minutes 5;clock at 1 1 pace 1 over 1 shows 9 from 0;person at 0 0 from 0;look at 0 unless 1;person at 3 0 from 0;look at 0 always;");
        due("unless one who does not see it", hides.looks(0, 0, 0), 1);
        due("one who does not see it", hides.looks(1, 0, 0), 0);
        hides.call(0, true);
        due("CALLED away", hides.looks(0, 0, 0), 0);
        UnseenClock chain = of("square wide 3 long 3 minutes 5;clock at 1 1 pace 1 over 1 shows 9 from 0;person at 0 0 from 0;look at 0 with 1;"
            + "person at 1 0 from 0;look at 0 unless 2;person at 2 0 from 0;look at 0 with 3;look at 0 maybe 100;person at 0 1 from 0;look at 0 each 3 after 1;");
        due("with one who looks", chain.looks(0, 0, 0), 1);
        due("unless one who does not", chain.looks(1, 0, 0), 1);
        due("with one who does not, and maybe", chain.looks(2, 0, 0), 0);
        due("open()", chain.open(), 0);
        UnseenClock each = of("square wide 3 long 3 minutes 8;clock at 1 1 pace 1 over 1 shows 9 from 0;person at 0 0 from 0;wait 7;look at 0 each 3 after 1;");
        int[] when = {0, 1, 0, 0, 1, 0, 0, 1};
        for (int m = 0; m < 8; m++) {
            due("each 3 after 1, MINUTE " + m, each.looks(0, 0, m), when[m]);
        }
        // he looks at 1 when he has just looked at 0 and it showed 2; a look at the other clock is none at this one
        UnseenClock seeing = of("square wide 3 long 3 minutes 6;clock at 1 1 pace 1 over 1 shows 9 from 1;clock at 2 0 pace 1 over 1 shows 9 from 2;"
            + "person at 1 0 from 0;wait 5;look at 0 each 2 after 1;look at 1 seeing 0 is 2;");
        int[] at1 = {0, 0, 1, 0, 0, 0};
        for (int m = 0; m < 6; m++) {
            due("seeing 0 is 2, MINUTE " + m, seeing.looks(0, 1, m), at1[m]);
        }
        promise = 13;
        due("open()", x.open(), 5);
        due("open() of one that is SETTLED", of(PLAZA).open(), 0);
        due("open() in WITH", of(WITH).open(), 1);
        UnseenClock self = of("square wide 3 long 3 minutes 5;clock at 1 1 pace 1 over 1 shows 9 from 0;clock at 2 2 pace 1 over 1 shows 9 from 0;"
            + "person at 1 0 from 2;look at 0 with 0;person at 1 2 from 2;look at 0 unless 1;look at 1 with 2;person at 0 2 from 2;look at 1 with 1;look at 0 with 1;");
        // in MINUTE 2: person 0 at 0; person 1 at 0, which settles 2 at 0; person 1 at 1, which settles 2 at 1
        due("open()", self.open(), 3);
        promise = 14;
        due("opens(0)", self.opens(0), 200);
        due("opens(1)", self.opens(1), 210);
        due("opens(2)", self.opens(2), 211);
        due("opens(3)", self.opens(3), NONE);
        due("opens(4)", x.opens(4), 400);
        due("opens(5)", x.opens(5), NONE);
        due("opens(-1)", x.opens(-1), NONE);
        due("opens(0), no SQUARE", new UnseenClock().opens(0), -2);
        promise = 13;
        due("open(), no SQUARE", new UnseenClock().open(), -2);
    }

    private static String selves(int minutes) {
        return "square wide 3 long 3 minutes 12;clock at 1 1 pace 1 over 1 shows 60 from 0;person at 0 0 from 0;" + (minutes > 1 ? "wait " + (minutes - 1) + ";" : "") + "look at 0 with 0;";
    }

    private static void courses() {
        promise = 16;
        due("courses()", of(UNLESS).courses(), 32);
        due("courses()", of(WITH).courses(), 2);
        due("courses()", of(PLAZA).courses(), 1);
        due("courses()", of(selves(7)).courses(), 128);
        UnseenClock many = of(selves(8));
        due("courses()", many.courses(), -3);
        due("courses(), no SQUARE", new UnseenClock().courses(), -2);
        StringBuilder crowd = new StringBuilder("square wide 3 long 3 minutes 40;clock at 1 1 pace 1 over 1 shows 60 from 0;");
        for (int i = 0; i < 8; i++) {
            crowd.append("person at 0 0 from 0;wait 40;look at 0 with ").append(i).append(";");
        }
        UnseenClock crowded = of(crowd.toString());
        due("open() of a crowd", crowded.open(), 320);
        due("opens(319) of a crowd", crowded.opens(319), 3970);
        due("opens(320) of a crowd", crowded.opens(320), NONE);
        due("courses() of a crowd", crowded.courses(), -3);
        // taken as yes, the first look of the first MINUTE settles the others of all MINUTES
        UnseenClock seen = of("square wide 3 long 3 minutes 5;clock at 1 1 pace 1 over 1 shows 60 from 0;person at 0 0 from 0;wait 4;look at 0 with 0;look at 0 seeing 0 is 0;");
        due("courses()", seen.courses(), 17);
        due("among(0, 5, 0)", seen.among(0, 5, 0), 1);
        promise = 17;
        due("among(0, 5, 0)", of(UNLESS).among(0, 5, 0), 32);
        due("among(0, 5, 1)", of(UNLESS).among(0, 5, 1), 0);
        due("among(0, 5, 4)", of(WITH).among(0, 5, 4), 1);
        UnseenClock x = of(selves(5));
        int[] choose = {1, 5, 10, 10, 5, 1};
        for (int i = 0; i <= 5; i++) {
            due("among(0, 5, " + i + ")", x.among(0, 5, i), choose[i]);
        }
        due("among(0, 12, 7)", x.among(0, 12, 7), 1);
        due("among(0, 13, 7)", x.among(0, 13, 7), -2);
        due("among(1, 5, 0)", x.among(1, 5, 0), -2);
        due("among(0, 5, 0)", many.among(0, 5, 0), -3);
        due("among(1, 5, 0)", many.among(1, 5, 0), -2);
        x.call(0, true);
        due("courses(), CALLED away", x.courses(), 1);
        IntSupplier[] asked = {
            () -> many.agree(0), () -> many.sure(0, 0, 0), () -> many.needs(0, 0, 0), () -> many.knows(0, 0, 0), () -> many.common(0, 0, 0), () -> many.alike(0),
            () -> many.lie(0, 0, 0, 0), () -> many.shown(0, 0, 0, 0), () -> many.learns(0, 0, 0), () -> many.sights(0)
        };
        many.row(0, 0, 3);
        for (int i = 0; i < asked.length; i++) {
            promise = i < 8 ? 18 + i : 19 + i;
            due("asked of more than 128", asked[i].getAsInt(), -3);
        }
        promise = 26;
        UnseenClock pair = of(selves(8) + "person at 0 0 from 0;");
        due("both(0, 1, 0, 0) of more than 128", pair.both(0, 1, 0, 0), -3);
        due("both(0, 0, 0, 0)", pair.both(0, 0, 0, 0), -2);
    }

    private static void sightings() {
        UnseenClock x = of(selves(5));
        promise = 18;
        due("agree(0), nothing", x.agree(0), -6);
        due("agree(4)", x.agree(4), -2);
        due("agree(-1)", x.agree(-1), -2);
        sightings(x, 0);
        due("agree of none", x.agree(0), 32);
        sightings(x, 0, 0, 5, 1);
        due("agree(0)", x.agree(0), 5);
        sightings(x, 0, 0, 5, 1, 0, 2, 1);
        due("agree(0)", x.agree(0), 2);
        sightings(x, 0, 0, 5, 1, 0, 2, 2);
        due("agree(0), not at once", x.agree(0), 0);
        sightings(x, 0, 0, 5, 77);
        due("agree(0), no such hour", x.agree(0), 0);
        sightings(x, 1, 0, 5);
        due("agree(1), not three", x.agree(1), -2);
        sightings(x, 1, 1, 5, 0);
        due("agree(1), no such CLOCK", x.agree(1), -2);
        sightings(x, 1, 0, 13, 0);
        due("agree(1), no such MINUTE", x.agree(1), -2);
        sightings(x, 1, 0, 12, 7);
        due("agree(1), the end", x.agree(1), 1);
        UnseenClock many = of(selves(8));
        sightings(many, 0, 9, 9, 9);
        due("a number is asked last", many.agree(0), -3);
        sightings(many, 0, 9, 9);
        due("three each are asked ahead", many.agree(0), -2);
        due("nothing is asked ahead", many.agree(1), -6);
        due("agree(0), no SQUARE", new UnseenClock().agree(0), -2);
        promise = 19;
        sightings(x, 0, 0, 5, 0);
        due("sure(0, 0, 3)", x.sure(0, 0, 3), 0);
        due("sure(0, 0, 12)", x.sure(0, 0, 12), 7);
        sightings(x, 0, 0, 5, 1);
        due("sure(0, 0, 3)", x.sure(0, 0, 3), NONE);
        due("sure(0, 0, 6)", x.sure(0, 0, 6), 2);
        sightings(x, 0, 0, 5, 50);
        due("sure(0, 0, 0), there are none", x.sure(0, 0, 0), NONE);
        due("sure(0, 0, 13)", x.sure(0, 0, 13), -2);
        due("sure(0, 1, 0)", x.sure(0, 1, 0), -2);
        due("sure(2, 0, 0)", x.sure(2, 0, 0), -6);
        due("sure(2, 1, 0)", x.sure(2, 1, 0), -2);
        due("sure(4, 0, 0)", x.sure(4, 0, 0), -2);
        sightings(x, 0, 0, 13, 0);
        due("sure(0, 0, 0), no such MINUTE", x.sure(0, 0, 0), -2);
        promise = 20;
        sightings(x, 0, 0, 1, 1, 0, 5, 1, 0, 3, 1);
        due("needs(0, 0, 0)", x.needs(0, 0, 0), 0);
        due("needs(0, 0, 5)", x.needs(0, 0, 5), 1);
        due("needs(0, 0, 4)", x.needs(0, 0, 4), 2);
        due("needs(0, 0, 2)", x.needs(0, 0, 2), 2);
        sightings(x, 0, 0, 1, 1, 0, 2, 1);
        due("needs(0, 0, 5), not by all", x.needs(0, 0, 5), NONE);
        sightings(x, 0, 0, 5, 1, 0, 5, 2);
        due("needs(0, 0, 5), not by all", x.needs(0, 0, 5), NONE);
        x.row(0, 0, 24);
        due("needs of eight", x.needs(0, 0, 0), 0);
        x.row(0, 0, 27);
        due("needs of nine", x.needs(0, 0, 0), -2);
        due("sure of nine", x.sure(0, 0, 0), 0);
        due("needs(3, 0, 0)", x.needs(3, 0, 0), -6);
        due("needs(4, 0, 0)", x.needs(4, 0, 0), -2);
        due("needs(0, 1, 0)", x.needs(0, 1, 0), -2);
        sightings(x, 0, 0, 5, 1, 0);
        due("needs, not three each", x.needs(0, 0, 0), -2);
    }

    private static void knowledge() {
        UnseenClock x = of(WITH);
        promise = 21;
        due("knows(0, 0, 5)", x.knows(0, 0, 5), 5);
        due("knows(2, 0, 5)", x.knows(2, 0, 5), NONE);
        due("knows(2, 0, 0)", x.knows(2, 0, 0), 0);
        due("knows(3, 0, 0)", x.knows(3, 0, 0), -2);
        due("knows(0, 1, 0)", x.knows(0, 1, 0), -2);
        due("knows(0, 0, 6)", x.knows(0, 0, 6), -2);
        promise = 22;
        due("common(4, 0, 5)", x.common(4, 0, 5), NONE);
        due("common(1, 0, 5)", x.common(1, 0, 5), 5);
        due("common(5, 0, 5)", x.common(5, 0, 5), NONE);
        due("common(0, 0, 5)", x.common(0, 0, 5), 5);
        due("common(7, 0, 0)", x.common(7, 0, 0), 0);
        due("common(8, 0, 0)", x.common(8, 0, 0), -2);
        due("common(-1, 0, 0)", x.common(-1, 0, 0), -2);
        due("common(0, 1, 0)", x.common(0, 1, 0), -2);
        due("common(0, 0, 6)", x.common(0, 0, 6), -2);
        // four COURSES, by two OPEN looks at two clocks; each of two sees one: none of them knows both, and step by step one comes to all
        UnseenClock y = of("square wide 5 long 2 minutes 5;clock at 0 0 pace 1 over 1 shows 9 from 0;clock at 4 0 pace 1 over 1 shows 9 from 0;wall at 2 0;"
            + "person at 1 0 from 0;look at 0 with 0;person at 3 0 from 0;look at 1 with 1;");
        due("knows(0, 0, 5)", y.knows(0, 0, 5), 5);
        due("knows(0, 1, 5)", y.knows(0, 1, 5), NONE);
        due("common(1, 0, 5)", y.common(1, 0, 5), 5);
        due("common(3, 0, 5)", y.common(3, 0, 5), NONE);
        due("common(3, 1, 5)", y.common(3, 1, 5), NONE);
        due("common(3, 0, 0)", y.common(3, 0, 0), 0);
        promise = 26;
        due("both(0, 1, 0, 5)", y.both(0, 1, 0, 5), 5);
        due("both(1, 0, 1, 5)", y.both(1, 0, 1, 5), 5);
        due("both(0, 2, 0, 5)", x.both(0, 2, 0, 5), 5);
        due("both(0, 0, 0, 5)", x.both(0, 0, 0, 5), -2);
        due("both(0, 3, 0, 5)", x.both(0, 3, 0, 5), -2);
        due("both(0, 1, 1, 5)", x.both(0, 1, 1, 5), -2);
        UnseenClock z = of(selves(5) + "person at 0 2 from 0;person at 2 0 from 0;");
        due("both of two who do not look", z.both(1, 2, 0, 5), NONE);
        promise = 23;
        due("alike(0)", x.alike(0), 1);
        due("alike(2)", x.alike(2), 2);
        due("alike(3)", x.alike(3), -2);
        due("alike(0)", y.alike(0), 2);
        due("alike(1)", z.alike(1), 32);
        x.call(0, true);
        due("alike(1), 0 CALLED away", x.alike(1), 1);
        x.call(0, false);
        promise = 28;
        due("sights(0)", x.sights(0), 2);
        due("sights(2)", x.sights(2), 1);
        due("sights(3)", x.sights(3), -2);
        due("sights(0)", of(UNLESS).sights(0), 32);
        promise = 27;
        due("learns(0, 0, 5)", x.learns(0, 0, 5), 1);
        due("learns(0, 0, 0)", x.learns(0, 0, 0), 0);
        due("learns(2, 0, 5)", x.learns(2, 0, 5), NONE);
        due("learns(0, 0, 5)", of(selves(5)).learns(0, 0, 5), 5);
        due("learns(0, 0, 3)", of(selves(5)).learns(0, 0, 3), 3);
        // who looks at the end sees by then whether it stood still
        UnseenClock late = of(WITH.replace("person at 0 1 from 0;", "person at 2 0 from 4;look at 0 always;"));
        due("learns(2, 0, 5)", late.learns(2, 0, 5), 5);
        due("knows(2, 0, 5)", late.knows(2, 0, 5), 4);
        due("learns(3, 0, 0)", x.learns(3, 0, 0), -2);
        due("learns(0, 1, 0)", x.learns(0, 1, 0), -2);
        due("learns(0, 0, 6)", x.learns(0, 0, 6), -2);
    }

    private static void lies() {
        UnseenClock x = of(WITH);
        promise = 24;
        due("lie(0, 0, 5, 4)", x.lie(0, 0, 5, 4), 0);
        due("lie(0, 0, 5, 5)", x.lie(0, 0, 5, 5), 1);
        due("lie(2, 0, 5, 4)", x.lie(2, 0, 5, 4), 0);
        UnseenClock y = of(selves(5) + "person at 0 2 from 0;");
        due("lie(0, 0, 5, 2), the other saw nothing", y.lie(0, 0, 5, 2), 1);
        due("lie(0, 0, 5, 6), in no course", y.lie(0, 0, 5, 6), 0);
        due("lie(1, 0, 5, 2)", y.lie(1, 0, 5, 2), 0);
        due("lie of one alone", of(selves(5)).lie(0, 0, 5, 40), 1);
        due("lie(3, 0, 5, 5)", x.lie(3, 0, 5, 5), -2);
        due("lie(0, 1, 5, 5)", x.lie(0, 1, 5, 5), -2);
        due("lie(0, 0, 6, 5)", x.lie(0, 0, 6, 5), -2);
        promise = 25;
        due("shown(0, 0, 5, 4)", x.shown(0, 0, 5, 4), 1);
        due("shown(1, 0, 5, 4)", x.shown(1, 0, 5, 4), 0);
        due("shown(0, 0, 5, 5)", x.shown(0, 0, 5, 5), NONE);
        due("shown(0, 0, 5, 2)", y.shown(0, 0, 5, 2), NONE);
        due("shown(0, 0, 5, 6)", y.shown(0, 0, 5, 6), 1);
        due("shown(3, 0, 5, 5)", x.shown(3, 0, 5, 5), -2);
        due("shown(0, 0, -1, 5)", x.shown(0, 0, -1, 5), -2);
    }

    private static void calledAway() {
        UnseenClock x = of(PLAZA);
        promise = 33;
        due("without(1, 0, 6)", x.without(1, 0, 6), 11);
        due("without(0, 0, 6)", x.without(0, 0, 6), 1);
        due("without(0, 0, 5)", x.without(0, 0, 5), 11);
        due("without(2, 0, 6)", x.without(2, 0, 6), -2);
        due("without(0, 2, 6)", x.without(0, 2, 6), -2);
        due("without(0, 0, 7)", x.without(0, 0, 7), -2);
        promise = 36;
        due("away(0, 6, 8, 0)", x.away(0, 6, 8, 0), 0);
        due("away(0, 6, 8, 1)", x.away(0, 6, 8, 1), 0);
        due("away(0, 6, 1, 0)", x.away(0, 6, 1, 0), 1);
        due("away(0, 6, 1, 1)", x.away(0, 6, 1, 1), 1);
        due("away(0, 6, 11, 1)", x.away(0, 6, 11, 1), 2);
        due("away(0, 6, 4, 0)", x.away(0, 6, 4, 0), 2);
        due("away(0, 6, 4, 1)", x.away(0, 6, 4, 1), 3);
        due("away(0, 6, 5, 0)", x.away(0, 6, 5, 0), NONE);
        due("away(0, 6, 8, 2)", x.away(0, 6, 8, 2), -2);
        due("away(0, 6, 8, -1)", x.away(0, 6, 8, -1), -2);
        due("away(0, 7, 8, 0)", x.away(0, 7, 8, 0), -2);
        due("away(2, 6, 8, 0)", x.away(2, 6, 8, 0), -2);
        // fewest ahead of least bits: 4 (one) ahead of 3 (two)
        UnseenClock y = of("square wide 3 long 3 minutes 5;clock at 1 1 pace 1 over 1 shows 9 from 0;person at 0 0 from 0;look at 0 always;person at 2 0 from 0;look at 0 always;"
            + "person at 0 2 from 1;look at 0 always;");
        due("away(0, 5, 4, 1)", y.away(0, 5, 4, 1), 4);
        due("away(0, 5, 4, 0)", y.away(0, 5, 4, 0), 1);
        due("away(0, 1, 1, 1)", y.away(0, 1, 1, 1), 3);
        promise = 34;
        due("hush(1, 11, 6, 0)", x.hush(1, 11, 6, 0), 1);
        due("hush(1, 11, 6, 1)", x.hush(1, 11, 6, 1), 1);
        due("hush(1, 11, 4, 1)", x.hush(1, 11, 4, 1), 2);
        due("hush(1, 11, 2, 1)", x.hush(1, 11, 2, 1), NONE);
        due("hush(1, 8, 1, 1)", x.hush(1, 8, 1, 1), 2);
        due("hush(1, 8, 2, 0)", x.hush(1, 8, 2, 0), 0);
        due("hush(2, 4, 6, 1)", x.hush(2, 4, 6, 1), NONE);
        due("hush(1, 5, 5, 0), all to be away", y.hush(1, 5, 5, 0), 3);
        due("hush(1, 5, 5, 1), all to be away", y.hush(1, 5, 5, 1), 7);
        due("hush(1, 0, 0, 0)", y.hush(1, 0, 0, 0), 0);
        due("hush(5, 4, 6, 1)", x.hush(5, 4, 6, 1), -2);
        due("hush(0, 4, 6, 1)", x.hush(0, 4, 6, 1), -2);
        due("hush(1, 60, 6, 1)", x.hush(1, 60, 6, 1), -2);
        due("hush(1, 4, 7, 1)", x.hush(1, 4, 7, 1), -2);
        due("hush(1, 4, 6, 2)", x.hush(1, 4, 6, 2), -2);
        promise = 35;
        due("call(1, true)", x.call(1, true), 1);
        due("call(1, true) again", x.call(1, true), 0);
        due("count(8)", x.count(8), 2);
        due("shows(0, 6)", x.shows(0, 6), 11);
        promise = 33;
        due("without(0, 0, 6), too", x.without(0, 0, 6), 4);
        promise = 36;
        due("away(0, 6, 8, 1), all others there", x.away(0, 6, 8, 1), 0);
        promise = 34;
        due("hush(1, 8, 2, 1), all others there", x.hush(1, 8, 2, 1), 0);
        promise = 35;
        due("call(0, false)", x.call(0, false), 0);
        due("call(1, false)", x.call(1, false), 1);
        due("shows(0, 6)", x.shows(0, 6), 8);
        due("call(2, true)", x.call(2, true), -2);
        due("call(-1, false)", x.call(-1, false), -2);
    }

    private static void keepers() {
        UnseenClock x = of(PLAZA);
        promise = 37;
        int[] kept = {4, 3, 2, 1, 0, 4, 4};
        for (int n = 0; n < kept.length; n++) {
            due("kept(1, " + n + ", 6)", x.kept(1, n, 6), kept[n]);
        }
        due("kept(1, 40, 6)", x.kept(1, 40, 6), 4);
        due("kept(1, 41, 6)", x.kept(1, 41, 6), -2);
        due("kept(1, -1, 6)", x.kept(1, -1, 6), -2);
        due("kept(2, 0, 6)", x.kept(2, 0, 6), -2);
        due("kept(1, 0, 7)", x.kept(1, 0, 7), -2);
        // kept, clock 0 shows a 1 for longer, and he who saw that looks once more
        UnseenClock y = of("square wide 3 long 3 minutes 6;clock at 1 1 pace 1 over 1 shows 9 from 0;person at 0 0 from 0;wait 5;look at 0 each 2 after 2;look at 0 seeing 0 is 1;");
        due("shows(0, 6)", y.shows(0, 6), 4);
        due("kept(0, 1, 6)", y.kept(0, 1, 6), 1);
        promise = 38;
        due("keep(1, 6, 4)", x.keep(1, 6, 4), 0);
        due("keep(1, 6, 3)", x.keep(1, 6, 3), 1);
        due("keep(1, 6, 1)", x.keep(1, 6, 1), 3);
        due("keep(0, 6, 7)", x.keep(0, 6, 7), 1);
        due("keep(0, 6, 9)", x.keep(0, 6, 9), NONE);
        due("keep(2, 6, 9)", x.keep(2, 6, 9), -2);
        due("keep(0, 7, 9)", x.keep(0, 7, 9), -2);
        due("keep(0, 40, 0)", of("square wide 2 long 2 minutes 40;clock at 1 1 pace 1 over 1 shows 60 from 0;").keep(0, 40, 0), 40);
        promise = 39;
        due("shifts(1, 6, 1, 2)", x.shifts(1, 6, 1, 2), 2);
        due("shifts(1, 6, 1, 3)", x.shifts(1, 6, 1, 3), 1);
        due("shifts(1, 6, 1, 1)", x.shifts(1, 6, 1, 1), 3);
        due("shifts(1, 6, 1, 40)", x.shifts(1, 6, 1, 40), 1);
        due("shifts(1, 6, 4, 2)", x.shifts(1, 6, 4, 2), 0);
        due("shifts(0, 6, 9, 2)", x.shifts(0, 6, 9, 2), NONE);
        due("shifts(1, 6, 1, 0)", x.shifts(1, 6, 1, 0), -2);
        due("shifts(1, 6, 1, 41)", x.shifts(1, 6, 1, 41), -2);
        due("shifts(2, 6, 1, 1)", x.shifts(2, 6, 1, 1), -2);
        promise = 40;
        due("last(1, 6, 1)", x.last(1, 6, 1), 3);
        due("last(1, 6, 3)", x.last(1, 6, 3), 0);
        due("last(1, 6, 4)", x.last(1, 6, 4), NONE);
        due("last(0, 6, 7)", x.last(0, 6, 7), 1);
        due("last(0, 6, 9)", x.last(0, 6, 9), NONE);
        due("last(0, 7, 9)", x.last(0, 7, 9), -2);
        promise = 41;
        due("all(1, 6, 4)", x.all(1, 6, 4), 0);
        due("all(1, 6, 7)", x.all(1, 6, 7), 1);
        due("all(1, 6, 0)", x.all(1, 6, 0), 4);
        due("all(2, 6, 4)", x.all(2, 6, 4), NONE);
        UnseenClock z = of("square wide 3 long 3 minutes 6;clock at 0 0 pace 1 over 1 shows 5 from 0;clock at 2 2 pace 2 over 1 shows 5 from 1;");
        due("all(2, 6, 3)", z.all(2, 6, 3), NONE);
        due("all(2, 6, 4)", z.all(2, 6, 4), 2);
        due("all(1, 2, 0)", z.all(1, 2, 0), 0);
        due("all(1, 2, 1)", z.all(1, 2, 1), 1);
        due("all(1, 3, 0), always kept", of("square wide 2 long 2 minutes 5;clock at 0 0 pace 1 over 1 shows 9 from 0;").all(1, 3, 0), 3);
        due("all(0, 6, 4)", z.all(0, 6, 4), -2);
        due("all(5, 6, 4)", z.all(5, 6, 4), -2);
        due("all(4, 6, 4)", z.all(4, 6, 4), NONE);
        due("all(1, 7, 4)", z.all(1, 7, 4), -2);
    }

    private static void paces() {
        UnseenClock x = of(PLAZA);
        promise = 42;
        due("pace(0, 6, 7)", x.pace(0, 6, 7), 0);
        due("pace(0, 6, 8)", x.pace(0, 6, 8), 2);
        due("pace(0, 6, 9)", x.pace(0, 6, 9), 4);
        due("pace(0, 6, 1)", x.pace(0, 6, 1), 12);
        due("pace(0, 6, 12)", x.pace(0, 6, 12), NONE);
        due("pace(2, 6, 7)", x.pace(2, 6, 7), -2);
        due("pace(0, 7, 7)", x.pace(0, 7, 7), -2);
        due("shows(0, 6) as ahead", x.shows(0, 6), 8);
        UnseenClock fast = of("square wide 2 long 2 minutes 5;clock at 1 1 pace 1 over 12 shows 60 from 0;");
        due("pace(0, 5, 25)", fast.pace(0, 5, 25), 60);
        due("pace(0, 5, 26)", fast.pace(0, 5, 26), NONE);
        promise = 43;
        due("mends(0, 4)", x.mends(0, 4), 3);
        due("shows(0, 6)", x.shows(0, 6), 9);
        due("mends(0, 60)", x.mends(0, 60), 4);
        due("shows(0, 6)", x.shows(0, 6), 1);
        due("mends(0, 61)", x.mends(0, 61), -2);
        due("mends(0, -1)", x.mends(0, -1), -2);
        due("mends(2, 1)", x.mends(2, 1), -2);
        due("mends(0, 0)", x.mends(0, 0), 60);
        due("courses()", x.courses(), 1);
        due("among(0, 6, 7)", x.among(0, 6, 7), 1);
    }

    private static void days() {
        // from seed 1 the draws are 38 58 13 15 51 27: as C's rand() once told them
        UnseenClock x = of("square wide 3 long 3 minutes 6;clock at 1 1 pace 1 over 1 shows 9 from 0;person at 0 0 from 0;wait 5;look at 0 maybe 50;");
        promise = 44;
        due("shows(0, 6)", x.shows(0, 6), 6);
        int[] shows = {0, 0, 1, 1, 1, 2, 2};
        for (int m = 0; m <= 6; m++) {
            due("day(1, 0, " + m + ")", x.day(1, 0, m), shows[m]);
        }
        due("day(0, 0, 1)", x.day(0, 0, 1), 0);
        due("day(-1, 0, 1)", x.day(-1, 0, 1), -2);
        due("day(2000000001, 0, 1)", x.day(2000000001, 0, 1), -2);
        due("day(2000000000, 0, 0)", x.day(2000000000, 0, 0), 0);
        due("day(1, 1, 1)", x.day(1, 1, 1), -2);
        due("day(1, 0, 7)", x.day(1, 0, 7), -2);
        // a draw is below N, not N itself; and none is made for one who does not see it or is CALLED away
        UnseenClock y = of("square wide 3 long 3 minutes 6;clock at 1 1 pace 1 over 1 shows 9 from 0;person at 0 0 from 2;look at 0 maybe 38;look at 0 maybe 58;look at 0 maybe 14;");
        due("day(1, 0, 6)", y.day(1, 0, 6), 5);
        UnseenClock z = of("square wide 3 long 3 minutes 6;clock at 1 1 pace 1 over 1 shows 9 from 0;person at 0 0 from 2;look at 0 maybe 38;look at 0 maybe 58;look at 0 maybe 13;");
        due("day(1, 0, 6)", z.day(1, 0, 6), 6);
        UnseenClock two = of("square wide 3 long 3 minutes 6;clock at 1 1 pace 1 over 1 shows 9 from 0;person at 0 0 from 0;wait 2;look at 0 maybe 0;person at 2 2 from 0;wait 2;look at 0 maybe 50;");
        due("day(1, 0, 1)", two.day(1, 0, 1), 1);
        two.call(0, true);
        due("day(1, 0, 1), one CALLED away", two.day(1, 0, 1), 0);
        promise = 45;
        due("days(1, 1, 0, 6, 2)", x.days(1, 1, 0, 6, 2), 1);
        due("days(1, 1, 0, 6, 3)", x.days(1, 1, 0, 6, 3), 0);
        int twos = 0;
        for (int i = 0; i < 20; i++) {
            twos += x.day(5 + i, 0, 6) == 2 ? 1 : 0;
        }
        due("days(5, 20, 0, 6, 2)", x.days(5, 20, 0, 6, 2), twos);
        due("days(5, 20, 0, 0, 0)", x.days(5, 20, 0, 0, 0), 20);
        due("days(2000000000, 20, 0, 0, 0)", x.days(2000000000, 20, 0, 0, 0), 20);
        due("days(5, 21, 0, 6, 2)", x.days(5, 21, 0, 6, 2), -2);
        due("days(5, 0, 0, 6, 2)", x.days(5, 0, 0, 6, 2), -2);
        due("days(-1, 1, 0, 6, 2)", x.days(-1, 1, 0, 6, 2), -2);
        due("days(5, 1, 1, 6, 2)", x.days(5, 1, 1, 6, 2), -2);
        due("days(5, 1, 0, 7, 2)", x.days(5, 1, 0, 7, 2), -2);
    }

    private static void images() {
        UnseenClock x = of(PLAZA);
        promise = 48;
        due("back(0), nothing", x.back(0), -6);
        due("back(3)", x.back(3), -2);
        due("back(-1)", x.back(-1), -2);
        promise = 47;
        due("image(3)", x.image(3), -2);
        due("image(-1)", x.image(-1), -2);
        x.mends(0, 4);
        x.call(1, true);
        due("image(2)", x.image(2), 0);
        int then = x.shows(0, 6);
        x.mends(0, 7);
        x.call(1, false);
        put(x, WITH);
        x.square();
        due("image(0)", x.image(0), 0);
        put(x, S);
        promise = 48;
        due("back(2)", x.back(2), 0);
        due("count(3)", x.count(3), 2);
        due("count(6)", x.count(6), 13);
        due("count(7) as ahead", x.count(7), 31);
        due("count(8)", x.count(8), 2);
        due("shows(0, 6)", x.shows(0, 6), then);
        due("mends(0, 9)", x.mends(0, 9), 4);
        due("back(2)", x.back(2), 0);
        due("mends(0, 9)", x.mends(0, 9), 4);
        due("back(0)", x.back(0), 0);
        due("courses()", x.courses(), 2);
        due("knows(2, 0, 5)", x.knows(2, 0, 5), NONE);
        due("back(1), nothing", x.back(1), -6);
        UnseenClock none = new UnseenClock();
        due("image(1) of no SQUARE", none.image(1), 0);
        put(none, S);
        none.square();
        due("back(1)", none.back(1), 0);
        due("open()", none.open(), -2);
        due("count(0)", none.count(0), 0);
    }

    private static void slots() {
        UnseenClock x = of(selves(5));
        promise = 49;
        due("row(0, 0, 3)", x.row(0, 0, 3), 0);
        due("row(3, 3, 60)", x.row(3, 3, 60), 0);
        due("count(9)", x.count(9), 2);
        due("row(4, 0, 3)", x.row(4, 0, 3), -2);
        due("row(-1, 0, 3)", x.row(-1, 0, 3), -2);
        due("row(1, 4, 3)", x.row(1, 4, 3), -2);
        due("row(1, -1, 3)", x.row(1, -1, 3), -2);
        due("row(1, 0, 61)", x.row(1, 0, 61), -2);
        due("row(1, 0, -1)", x.row(1, 0, -1), -3);
        due("row(1, 4, -1)", x.row(1, 4, -1), -2);
        due("count(9)", x.count(9), 2);
        x.write(0, 1, 5);
        due("row(0, 0, -1), the SLOT stays", x.row(0, 0, -1), -3);
        due("agree(0)", x.agree(0), 1);
        x.row(0, 0, 3);
        due("agree(0) of all 0", x.agree(0), 32);
        promise = 50;
        due("write(0, 0, 0)", x.write(0, 0, 0), 0);
        due("write(0, 3, 0)", x.write(0, 3, 0), -7);
        due("write(0, -1, 0)", x.write(0, -1, 0), -7);
        due("write(1, 0, 0)", x.write(1, 0, 0), -6);
        due("write(4, 0, 0)", x.write(4, 0, 0), -2);
        due("write(-1, 0, 0)", x.write(-1, 0, 0), -2);
        for (int width = 0; width < 4; width++) {
            x.row(0, width, 3);
            x.write(0, 1, 5);
            x.write(0, 2, 1);
            due("agree(0)", x.agree(0), 5);
            for (int byteNumber = 1; byteNumber < 8; byteNumber++) {
                x.write(0, 2, 1L + (1L << 8 * byteNumber));
                boolean cut = byteNumber >= 1 << width;
                due("agree(0), WIDTH " + width + ", byte " + byteNumber, x.agree(0), cut ? 5 : 0);
            }
        }
        promise = 51;
        sightings(x, 0, 0, 5, 1, 0, 2, 2);
        x.row(1, 0, 6);
        due("paste(0, 0, 1, 3, 3)", x.paste(0, 0, 1, 3, 3), 0);
        due("agree(1)", x.agree(1), 5);
        due("paste(0, 3, 1, 0, 3)", x.paste(0, 3, 1, 0, 3), 0);
        due("agree(1)", x.agree(1), 0);
        sightings(x, 2, 0, 0, 0, 0, 5, 1);
        due("paste(2, 3, 2, 0, 3)", x.paste(2, 3, 2, 0, 3), 0);
        due("agree(2)", x.agree(2), 5);
        sightings(x, 2, 0, 0, 5, 1, 0, 0);
        due("paste(2, 1, 2, 0, 3)", x.paste(2, 1, 2, 0, 3), 0);
        x.paste(2, 5, 2, 3, 1);
        x.paste(2, 5, 2, 4, 1);
        due("agree(2), moved up", x.agree(2), 5);
        sightings(x, 2, 0, 5, 1, 0, 0, 0);
        due("paste(2, 0, 2, 1, 5)", x.paste(2, 0, 2, 1, 5), 0);
        due("paste(2, 1, 2, 0, 5)", x.paste(2, 1, 2, 0, 5), 0);
        due("agree(2), down and up", x.agree(2), 5);
        due("paste(0, 6, 1, 6, 0)", x.paste(0, 6, 1, 6, 0), 0);
        due("paste(0, 4, 1, 0, 3)", x.paste(0, 4, 1, 0, 3), -7);
        due("paste(0, 0, 1, 4, 3)", x.paste(0, 0, 1, 4, 3), -7);
        due("paste(0, -1, 1, 0, 1)", x.paste(0, -1, 1, 0, 1), -7);
        due("paste(0, 0, 1, -1, 1)", x.paste(0, 0, 1, -1, 1), -7);
        due("paste(0, 0, 1, 0, -1)", x.paste(0, 0, 1, 0, -1), -7);
        due("paste beyond all numbers", x.paste(0, Integer.MAX_VALUE, 1, 0, Integer.MAX_VALUE), -7);
        x.row(2, 1, 6);
        due("paste of another WIDTH", x.paste(0, 0, 2, 0, 1), -8);
        due("paste of another WIDTH, beyond", x.paste(0, 9, 2, 0, 1), -8);
        UnseenClock y = new UnseenClock();
        y.row(0, 0, 3);
        due("paste to nothing", y.paste(0, 0, 1, 0, 1), -6);
        due("paste from nothing", y.paste(1, 0, 0, 0, 1), -6);
        due("paste(0, 0, 4, 0, 1)", y.paste(0, 0, 4, 0, 1), -2);
        due("paste(-1, 0, 0, 0, 1)", y.paste(-1, 0, 0, 0, 1), -2);
    }
}
