import java.nio.charset.StandardCharsets;
import java.nio.file.Files;
import java.nio.file.Path;
import java.util.function.ToIntFunction;

/** What the boundary tests share: sentences of the document, an object in a rich state, and all that can be seen of an object. */
final class Probe {
    static final int NONE = UnseenClock.NONE;
    static final int LOWEST = Integer.MIN_VALUE;
    static final int HIGHEST = Integer.MAX_VALUE;
    private static final int MOST_TOLD = 60;

    /* The TAPE of standing(). */
    static final String WAITING = "square wide 3 long 3 minutes 9;";

    /* 7 MINUTES, 2 CLOCKS, 3 PEOPLE; 0 and 1 look with each other in MINUTES 0 to 3, which is OPEN. */
    static final String STANDING =
        "square wide 6 long 5 minutes 7;wall at 3 1;"
        + "clock at 2 2 pace 3 over 2 shows 12 from 11;clock at 5 0 pace 1 over 1 shows 5 from 4;"
        + "person at 0 2 from 0;wait 6;look at 0 with 1;"
        + "person at 2 0 from 0;wait 3;go south 2;look at 0 with 0;look at 1 each 2 after 1;look at 0 maybe 50;"
        + "person at 0 0 from 2;go east 3;look at 0 always;look at 1 unless 1;";

    private static String document = "";
    private static String sentence = "";
    private static boolean tested = true;
    private static int sentences = 0;
    private static int answers = 0;
    private static int wrong = 0;

    private Probe() { }

    /** What follows tests these words of the document. */
    static void sentence(String words) {
        close();
        if (document.isEmpty()) {
            document = plainBlanks(readDocument());
        }
        sentence = words;
        tested = false;
        sentences++;
        if (!document.contains(plainBlanks(words))) {
            fail("the document has no such words");
        }
    }

    private static void close() {
        if (!tested) {
            fail("no test of its own");
        }
        tested = true;
    }

    private static String readDocument() {
        try {
            return Files.readString(Path.of("../shared/DOC.md"));
        } catch (java.io.IOException e) {
            return "the document can't be read";
        }
    }

    private static String plainBlanks(String text) {
        return text.replaceAll("\\s+", " ");
    }

    private static void fail(String what) {
        wrong++;
        if (wrong <= MOST_TOLD) {
            System.out.println("\"" + sentence + "\": " + what);
        }
    }

    static void due(String what, int got, int want) {
        tested = true;
        answers++;
        if (got != want) {
            fail(what + " answered " + got + ", due is " + want);
        }
    }

    static void dueRow(String what, int[] got, int... want) {
        due(what + ", so many", got.length, want.length);
        for (int i = 0; i < got.length && i < want.length; i++) {
            due(what + ", " + i, got[i], want[i]);
        }
    }

    static void dueNot(String what, int got, int refusal) {
        tested = true;
        answers++;
        if (got == refusal) {
            fail(what + " is refused with " + got);
        }
    }

    static void dueSame(String what, String got, String want) {
        tested = true;
        answers++;
        if (!got.equals(want)) {
            fail(what + " leaves " + got + ", and it was " + want);
        }
    }

    static void finish() {
        close();
        System.out.println(wrong == 0 ? sentences + " sentences hold, by " + answers + " answers" : wrong + " answers are not as due");
        if (wrong != 0) {
            System.exit(1);
        }
    }

    // ---------------------------------------------------------------- objects

    /** The text comes behind what the TAPE has. */
    static void put(UnseenClock x, String text) {
        byte[] t = text.getBytes(StandardCharsets.ISO_8859_1);
        int was = x.count(7);
        for (int i = 0; i < t.length; i += 20) {
            int[] v = new int[5];
            for (int j = 0; j < 20; j++) {
                v[j / 4] |= (i + j < t.length ? t[i + j] & 255 : ' ') << 24 - 8 * (j % 4);
            }
            x.feed(v[0], v[1], v[2], v[3], v[4]);
        }
        x.end(was + t.length);
    }

    static UnseenClock of(String... lines) {
        UnseenClock x = new UnseenClock();
        square(x, lines);
        return x;
    }

    static void square(UnseenClock x, String... lines) {
        put(x, String.join(";", lines) + ";");
        int answer = x.square();
        if (answer < 1) {
            fail("a FAULT, " + x.fault(0) + " at " + x.fault(1) + ", in: " + String.join(";", lines));
        }
    }

    static void write(UnseenClock x, int slot, int width, long... numbers) {
        x.row(slot, width, numbers.length);
        for (int i = 0; i < numbers.length; i++) {
            x.write(slot, i, numbers[i]);
        }
    }

    /** An object that has something of all that an object can have: a refused call has much to spoil. */
    static UnseenClock standing() {
        UnseenClock x = new UnseenClock();
        put(x, STANDING);
        x.square();
        x.image(1);
        x.call(2, true);
        x.mends(1, 2);
        x.image(0);
        x.mends(0, 2);
        write(x, 0, 0, 0, 7, 6, 0, 0, 11);
        x.row(1, 2, 0);
        write(x, 2, 0, 0, 4, 3);
        put(x, " wall");
        x.square();
        x.end(0);
        put(x, WAITING);
        return x;
    }

    /** All that can be seen of an object in the state of standing(), but for its latest FAULT. The object is spent then. */
    static String rest(UnseenClock x) {
        StringBuilder b = new StringBuilder();
        for (int i = 0; i < 10; i++) {
            b.append(x.count(i)).append(' ');
        }
        b.append("| rows ");
        for (int slot = 0; slot < 4; slot++) {
            b.append(x.agree(slot)).append(' ').append(x.sure(slot, 0, 7)).append(' ').append(x.write(slot, 0, 1)).append(' ').append(x.agree(slot)).append(' ');
        }
        course(x, b);
        for (int k = 0; k < 3; k++) {
            b.append("| back ").append(x.back(k)).append(' ').append(x.count(8)).append(' ');
            course(x, b);
        }
        b.append("| TAPE ").append(x.square()).append(' ').append(x.fault(0)).append(' ').append(x.fault(1)).append(' ').append(x.count(2));
        return b.toString();
    }

    private static void course(UnseenClock x, StringBuilder b) {
        b.append("| ").append(x.open()).append(' ').append(x.courses()).append(' ');
        for (int minute = 0; minute < 7; minute++) {
            b.append(x.at(2, minute)).append(' ').append(x.eyes(0, minute)).append(' ').append(x.eyes(1, minute)).append(' ');
        }
        for (int clock = 0; clock < 2; clock++) {
            b.append(x.value(clock, 7, 0)).append(' ').append(x.value(clock, 7, 1)).append(' ').append(x.value(clock, 7, 2)).append(' ');
        }
    }

    static String restAndFault(UnseenClock x) {
        return x.fault(0) + " at " + x.fault(1) + " | " + rest(x);
    }

    /** What standing() answers, and that nothing is changed by the call. */
    static void leaves(int want, String what, ToIntFunction<UnseenClock> call) {
        UnseenClock x = standing();
        due(what, call.applyAsInt(x), want);
        dueSame(what, restAndFault(x), restAndFault(standing()));
    }

    /** Likewise, of an object that another call has made ready. */
    static void leaves(int want, String what, ToIntFunction<UnseenClock> ready, ToIntFunction<UnseenClock> call) {
        UnseenClock x = standing();
        UnseenClock twin = standing();
        ready.applyAsInt(x);
        ready.applyAsInt(twin);
        due(what, call.applyAsInt(x), want);
        dueSame(what, restAndFault(x), restAndFault(twin));
    }
}
