import java.lang.reflect.Method;
import java.util.ArrayList;
import java.util.LinkedHashMap;
import java.util.List;
import java.util.Map;
import java.util.Random;

/** Random runs of calls, each answer held against SquareModel's. The seeds are fixed, so that each run can be told again. */
public final class ModelTest {
    /* Kinds of arguments: p PERSON, c CLOCK, m MINUTE, h hour, w what, n a number of some, s SLOT, S a set, i any small number, d seed, a boolean. */
    private static final String[] FACE = {
        "end n", "fault w", "at pm", "sees pcm", "looks pcm", "eyes cm", "shows cm", "value cmw", "still cw", "open ", "opens i",
        "bell nh", "courses ", "among cmh", "agree s", "sure scm", "needs scm", "knows pcm", "common Scm", "alike p", "lie pcmh",
        "shown pcmh", "both ppcm", "learns pcm", "sights p", "meets pp", "spots c", "when ch", "hours c", "without pcm", "hush nhmw",
        "call pa", "away cmhw", "kept ckm", "keep cmh", "shifts cmhn", "last cmh", "all nmh", "pace cmh", "mends ch", "day dcm",
        "days dncmh", "count i", "image w", "back w", "row swr", "write siv", "paste sisin"
    };

    private static final Map<String, Method> MINE = new LinkedHashMap<>();
    private static final Map<String, Method> MODEL = new LinkedHashMap<>();
    private static final Map<String, Map<Integer, Integer>> ANSWERS = new LinkedHashMap<>();
    private static int wrong = 0;

    private final Random random;
    private final UnseenClock mine = new UnseenClock();
    private final SquareModel model = new SquareModel();
    private final List<String> told = new ArrayList<>();

    private ModelTest(long seed) {
        random = new Random(seed);
    }

    public static void main(String[] args) throws Exception {
        for (Method m : UnseenClock.class.getMethods()) MINE.put(m.getName(), m);
        for (Method m : SquareModel.class.getMethods()) MODEL.put(m.getName(), m);
        int runs = args.length > 0 ? Integer.parseInt(args[0]) : 800;
        int first = args.length > 1 ? Integer.parseInt(args[1]) : 1;
        for (int seed = first; seed < first + runs && wrong < 5; seed++) new ModelTest(seed).run(seed);
        checkReach();
        if (args.length > 2) System.out.println(ANSWERS.get(args[2]));
        System.out.println(wrong == 0 ? "all random runs are as due" : wrong + " answers are not as due");
        if (wrong != 0) System.exit(1);
    }

    /** A run that never comes to an answer that the document names would prove nothing about it. */
    private static void checkReach() {
        String[] due = {
            "feed -1", "end -1", "square -4", "fault 1", "fault 2", "fault 3", "looks 2", "looks 1", "courses -3", "among -3", "agree -6", "agree -3",
            "sure -1", "needs -1", "needs 1", "knows -1", "common -1", "lie 0", "lie 1", "shown -1", "both -1", "learns -1", "learns 3",
            "hush -1", "hush 2", "away -1", "away 2", "keep -1", "keep 3", "shifts 2", "last -1", "all -1", "all 2", "pace -1", "back -6",
            "row -3", "write -6", "write -7", "paste -8", "paste -7", "paste -6", "paste 0", "bell -1", "when -1", "still -1", "opens -1"
        };
        for (String d : due) {
            String[] part = d.split(" ");
            if (!ANSWERS.getOrDefault(part[0], Map.of()).containsKey(Integer.parseInt(part[1]))) {
                wrong++;
                System.out.println("no random run comes to " + part[0] + " answering " + part[1]);
            }
        }
    }

    private void run(long seed) throws Exception {
        for (int i = 0; i < 500 && wrong < 5; ) {
            int kind = random.nextInt(100);
            if (i == 0 && random.nextInt(8) != 0 || kind < 2) i += putText();
            else {
                i++;
                some();
            }
            if (told.get(told.size() - 1).startsWith("!")) {
                System.out.println("seed " + seed + ": " + told);
                return;
            }
        }
    }

    private int ask(String name, Object... values) throws Exception {
        int got = (Integer) MINE.get(name).invoke(mine, values);
        int due = (Integer) MODEL.get(name).invoke(model, values);
        String call = name + java.util.Arrays.toString(values) + " = " + got;
        told.add(got == due ? call : "!" + call + ", due is " + due);
        if (got != due) wrong++;
        ANSWERS.computeIfAbsent(name, z -> new java.util.TreeMap<>()).merge(got, 1, Integer::sum);
        return got;
    }

    private void some() throws Exception {
        String face = FACE[random.nextInt(FACE.length)];
        String name = face.substring(0, face.indexOf(' '));
        String kinds = face.substring(face.indexOf(' ') + 1);
        if (name.equals("end") && random.nextInt(4) != 0) {
            ask("count", 7);
            return;
        }
        Object[] v = new Object[kinds.length()];
        for (int i = 0; i < v.length; i++) v[i] = value(kinds.charAt(i));
        if (name.equals("row") && random.nextBoolean()) putSightings();
        else if (name.equals("hush") || name.equals("away")) {
            if (model.count(4) <= 6 || random.nextInt(10) == 0) ask(name, v);
            else ask("open");
        } else ask(name, v);
    }

    private Object value(char kind) {
        int odd = random.nextInt(40);
        if (odd == 0 && kind != 'a') return kind == 'v' ? (Object) (long) random.nextInt() : (Object) (oddNumber());
        switch (kind) {
            case 'p': return random.nextInt(Math.max(1, model.count(4)) + (odd < 3 ? 1 : 0));
            case 'c': return random.nextInt(Math.max(1, model.count(3)) + (odd < 3 ? 1 : 0));
            case 'm': return random.nextInt(model.count(2) + (odd < 3 ? 2 : 1));
            case 'h': return likelyHour(odd);
            case 'w': return random.nextInt(odd < 3 ? 4 : 3);
            case 'n': return 1 + random.nextInt(odd < 30 ? 2 : odd < 37 ? 4 : 45);
            case 'k': return random.nextInt(odd < 30 ? 6 : 42);
            case 's': return random.nextInt(odd < 3 ? 5 : 4);
            case 'S': return random.nextInt((1 << model.count(4)) + (odd < 3 ? 3 : 0));
            case 'i': return random.nextInt(11);
            case 'r': return random.nextInt(odd < 3 ? 64 : 13);
            case 'd': return odd < 5 ? 1999999990 + random.nextInt(12) : random.nextInt(2000000001);
            case 'v': return odd < 3 ? random.nextLong() : (long) random.nextInt(6) + (odd < 8 ? 256L << 8 * random.nextInt(4) : 0);
            default: return random.nextBoolean();
        }
    }

    private int oddNumber() {
        int[] odd = {-1, -2, -3, Integer.MIN_VALUE, Integer.MAX_VALUE, random.nextInt(), 100, 64};
        return odd[random.nextInt(odd.length)];
    }

    /** Mostly one that some clock comes to, though not always in this course. */
    private int likelyHour(int odd) {
        if (model.count(3) == 0 || odd < 10) return random.nextInt(odd < 8 ? 14 : 62);
        int h = model.shows(random.nextInt(model.count(3)), random.nextInt(model.count(2) + 1));
        return odd < 25 ? h : Math.max(0, h + random.nextInt(5) - 2);
    }

    /** A row of what clocks did show, now and then of something else. */
    private void putSightings() throws Exception {
        int slot = random.nextInt(4);
        int n = random.nextInt(9) == 0 ? 8 + random.nextInt(3) : random.nextInt(5);
        if (ask("row", slot, random.nextInt(4), 3 * n) != 0 || model.count(3) == 0) return;
        for (int i = 0; i < n; i++) {
            int clock = random.nextInt(model.count(3));
            int minute = random.nextInt(model.count(2) + 1);
            int h = model.shows(clock, minute) + (random.nextInt(12) == 0 ? 1 : 0);
            ask("write", slot, 3 * i, (long) clock);
            ask("write", slot, 3 * i + 1, (long) minute);
            ask("write", slot, 3 * i + 2, (long) h);
        }
        for (int i = 0; i < 4; i++) {
            Object c = value('c'), m = value('m');
            ask("agree", slot);
            ask("sure", slot, c, m);
            ask("needs", slot, c, m);
        }
    }

    // ---------------------------------------------------------------- texts

    private int putText() throws Exception {
        int before = told.size();
        if (random.nextInt(5) != 0) ask("end", 0);
        int was = model.count(7);
        String text = join(lines());
        if (random.nextInt(4) == 0) text = spoil(text);
        byte[] t = text.getBytes("ISO-8859-1");
        int tries = random.nextInt(60) == 0 ? 130 : 1;
        for (int k = 0; k < tries; k++) {
            for (int i = 0; i < t.length; i += 20) {
                int[] v = new int[5];
                for (int j = 0; j < 20; j++) v[j / 4] |= (i + j < t.length ? t[i + j] & 255 : random.nextInt(256)) << 24 - 8 * (j % 4);
                ask("feed", v[0], v[1], v[2], v[3], v[4]);
            }
        }
        if (tries == 1 && random.nextInt(30) != 0) ask("end", was + t.length);
        ask("square");
        ask("fault", 0);
        ask("fault", 1);
        return told.size() - before;
    }

    private int upTo(int most) {
        return random.nextInt(most + 1);
    }

    private List<String> lines() {
        List<String> out = new ArrayList<>();
        int wide = 2 + upTo(random.nextBoolean() ? 4 : 10), tall = 2 + upTo(random.nextBoolean() ? 4 : 10);
        int minutes = random.nextInt(4) == 0 ? 5 + upTo(35) : 5 + upTo(5);
        out.add("square wide " + wide + " long " + tall + " minutes " + minutes + " ;");
        int walls = upTo(random.nextInt(5) == 0 ? 13 : 3), clocks = random.nextInt(20) == 0 ? upTo(5) : 1 + upTo(2);
        int people = random.nextInt(20) == 0 ? upTo(9) : 1 + upTo(4);
        boolean tight = random.nextInt(3) == 0;
        int[] near = {upTo(wide - 1), upTo(tall - 1)};
        for (int i = 0; i < clocks; i++) clock(out, wide, tall, near);
        for (int i = 0; i < people; i++) {
            person(out, new int[] {wide, tall, minutes, clocks, people}, near, tight);
            if (walls > 0 && random.nextBoolean()) {
                out.add("wall at " + upTo(wide - 1) + " " + upTo(tall - 1) + " ;");
                walls--;
            }
        }
        while (walls-- > 0) out.add(1 + random.nextInt(out.size()), "wall at " + upTo(wide - 1) + " " + upTo(tall - 1) + " ;");
        return free(out);
    }

    private void clock(List<String> out, int wide, int tall, int[] near) {
        if (random.nextInt(4) != 0) near[0] = upTo(wide - 1);
        if (random.nextInt(4) != 0) near[1] = upTo(tall - 1);
        int shows = random.nextBoolean() ? 2 + upTo(10) : 2 + upTo(58);
        int over = random.nextBoolean() ? 1 : 1 + upTo(11);
        int pace = random.nextInt(3) != 0 ? over * (1 + upTo(2)) % 61 : upTo(60);
        out.add("clock at " + near[0] + " " + near[1] + " pace " + pace + " over " + over + " shows " + shows + " from " + upTo(shows - 1) + " ;");
    }

    private void person(List<String> out, int[] told, int[] near, boolean tight) {
        int wide = told[0], tall = told[1], minutes = told[2], clocks = told[3], people = told[4];
        boolean row = random.nextInt(3) == 0, column = !row && random.nextBoolean();
        int x = column ? near[0] : upTo(wide - 1), y = row ? near[1] : upTo(tall - 1);
        out.add("person at " + x + " " + y + " from " + (random.nextInt(3) == 0 ? upTo(minutes - 1) : upTo(1)) + " ;");
        int moves = random.nextInt(15) == 0 ? upTo(7) : 1 + upTo(2), looks = random.nextInt(15) == 0 ? upTo(5) : 1 + upTo(2);
        List<String> rest = new ArrayList<>();
        for (int i = 0; i < moves; i++) {
            if (random.nextInt(tight ? 3 : 2) != 0) rest.add("wait " + (1 + upTo(random.nextInt(10) == 0 ? 39 : 2)) + " ;");
            else rest.add("go " + new String[] {"north", "east", "south", "west"}[random.nextInt(4)] + " " + (1 + upTo(2)) + " ;");
        }
        for (int i = 0; i < looks; i++) rest.add(random.nextInt(rest.size() + 1), "look at " + upTo(Math.max(0, clocks - 1)) + " " + habit(clocks, people, tight) + " ;");
        out.addAll(rest);
    }

    private String habit(int clocks, int people, boolean tight) {
        switch (random.nextInt(tight ? 12 : 8)) {
            case 0: return "always";
            case 1: return "each " + (1 + upTo(4)) + " after " + upTo(random.nextInt(9) == 0 ? 39 : 3);
            case 2: return "seeing " + upTo(Math.max(0, clocks - 1)) + " is " + upTo(random.nextInt(9) == 0 ? 59 : 5);
            case 3: return "maybe " + upTo(100);
            case 4: case 5: case 8: case 9: return "with " + upTo(random.nextInt(12) == 0 ? 7 : Math.min(7, Math.max(0, people - 1)));
            default: return "unless " + upTo(random.nextInt(12) == 0 ? 7 : Math.min(7, Math.max(0, people - 1)));
        }
    }

    /** Leaves out, most often, the LINES on CELLS that are not free, since they would hide all else. */
    private List<String> free(List<String> lines) {
        if (random.nextInt(12) == 0) return lines;
        List<String> out = new ArrayList<>(), taken = new ArrayList<>();
        for (String line : lines) {
            String[] w = line.split(" ");
            boolean cell = w[0].equals("wall") || w[0].equals("clock") || w[0].equals("person");
            String where = cell ? w[2] + "," + w[3] : "";
            if (cell && taken.contains(where)) {
                if (w[0].equals("wall")) continue;
                return lines();
            }
            if (w[0].equals("wall") || w[0].equals("clock")) taken.add(where);
            out.add(line);
        }
        return out;
    }

    private String join(List<String> lines) {
        StringBuilder b = new StringBuilder();
        boolean airy = random.nextInt(4) == 0;
        for (String line : lines) {
            String l = line;
            if (random.nextInt(3) == 0) l = l.replace(" ;", ";");
            if (airy) l = l.replace(" ", random.nextBoolean() ? "\n " : "  ");
            if (random.nextInt(6) == 0) l = l.replaceAll("(?<=[0-9]) +(?=[a-z])", "").replaceAll("(?<=[a-z]) +(?=[0-9])", "");
            b.append(l);
            if (random.nextInt(3) != 0) b.append(random.nextBoolean() ? "\n" : " ");
        }
        return b.toString();
    }

    private String spoil(String text) {
        StringBuilder b = new StringBuilder(text);
        for (int i = 1 + random.nextInt(2); i > 0 && b.length() > 0; i--) {
            int at = random.nextInt(b.length());
            String[] bits = {";", " ", "x", "0", "9", "99999999999999999999", "\t", "A", "\u00e9", "\0", "square ", "go north 1 ;", "wait 1 ;", "look at 0 always ;", "person at 0 0 from 0 ;", "00"};
            switch (random.nextInt(5)) {
                case 0: b.deleteCharAt(at); break;
                case 1: b.setLength(at); break;
                case 2: b.setCharAt(at, bits[random.nextInt(bits.length)].charAt(0)); break;
                default: b.insert(at, bits[random.nextInt(bits.length)]);
            }
        }
        return b.toString();
    }
}
