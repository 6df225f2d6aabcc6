import java.util.ArrayList;
import java.util.Arrays;
import java.util.HashMap;
import java.util.HashSet;
import java.util.List;
import java.util.Map;
import java.util.Set;
import java.util.TreeSet;

/**
 * A second reading of the document, slow and without regard for room, to hold the class against.
 * It shares no code and few ways with the class: LINES are read by patterns, sight spreads from the clocks,
 * courses are told apart by texts of what was seen, and nothing is kept from call to call.
 */
public final class SquareModel {
    static final int NONE = -1;

    static final class Who {
        int x, y, from;
        List<String[]> moves = new ArrayList<>();
        List<String[]> looks = new ArrayList<>();
    }

    static final class Sq {
        int wide, tall, minutes, lines;
        List<int[]> walls = new ArrayList<>();
        List<int[]> clocks = new ArrayList<>();
        List<Who> people = new ArrayList<>();
    }

    /** What happened in a course up to now. */
    static final class Course {
        List<boolean[][]> looks = new ArrayList<>();
        List<int[]> shows = new ArrayList<>();
        List<int[]> wholes = new ArrayList<>();
        List<int[]> rests = new ArrayList<>();
        List<Integer> open = new ArrayList<>();
        int[] kept;
        int[] keptLast;

        Course copy() {
            Course c = new Course();
            c.looks.addAll(looks);
            c.shows.addAll(shows);
            c.wholes.addAll(wholes);
            c.rests.addAll(rests);
            c.open.addAll(open);
            c.kept = kept.clone();
            c.keptLast = keptLast.clone();
            return c;
        }
    }

    private final List<Integer> tape = new ArrayList<>();
    private Sq sq = new Sq();
    private int[] paces = new int[0];
    private Set<Integer> gone = new HashSet<>();
    private int faultKind = 0;
    private int faultPlace = NONE;
    private final Object[][] images = new Object[3][];
    private final long[][] rows = new long[4][];
    private final int[] widths = new int[4];
    private List<Course> cached;

    // ---------------------------------------------------------------- reading

    private static final Map<String, String> PATTERNS = new HashMap<>();
    static {
        PATTERNS.put("square", "wide 2:12 long 2:12 minutes 5:40");
        PATTERNS.put("wall", "at X Y");
        PATTERNS.put("clock", "at X Y pace 0:60 over 1:12 shows 2:60 from F");
        PATTERNS.put("person", "at X Y from M");
        PATTERNS.put("go", "WAY 1:12");
        PATTERNS.put("wait", "1:40");
        PATTERNS.put("look", "at K HABIT");
    }
    private static final Map<String, String> HABITS = new HashMap<>();
    static {
        HABITS.put("always", "");
        HABITS.put("each", "1:40 after 0:39");
        HABITS.put("seeing", "K is 0:59");
        HABITS.put("with", "0:7");
        HABITS.put("unless", "0:7");
        HABITS.put("maybe", "0:100");
    }

    private static final class Bad extends RuntimeException {
        private static final long serialVersionUID = 1L;
        final int kind, place;
        Bad(int kind, int place) {
            super(null, null, false, false);
            this.kind = kind;
            this.place = place;
        }
    }

    private List<String> tokens;
    private List<Integer> places;
    private int next;

    private void cutTokens(String text) {
        tokens = new ArrayList<>();
        places = new ArrayList<>();
        java.util.regex.Matcher m = java.util.regex.Pattern.compile("[a-z]+|[0-9]+|[^ \\n]", java.util.regex.Pattern.DOTALL).matcher(text);
        while (m.find()) {
            tokens.add(m.group());
            places.add(m.start());
        }
        tokens.add("");
        places.add(text.length());
        next = 0;
    }

    private Sq readText(String text) {
        cutTokens(text);
        Sq s = new Sq();
        while (!tokens.get(next).isEmpty()) {
            readLine(s);
            if (!tokens.get(next).equals(";")) {
                throw new Bad(1, places.get(next));
            }
            next++;
            s.lines++;
        }
        return s;
    }

    private void readLine(Sq s) {
        String word = tokens.get(next);
        int place = places.get(next);
        if (!PATTERNS.containsKey(word) || word.equals("square") != (s.lines == 0)) {
            throw new Bad(1, place);
        }
        Who who = s.people.isEmpty() ? null : s.people.get(s.people.size() - 1);
        boolean ofPerson = Arrays.asList("go", "wait", "look").contains(word);
        if (ofPerson && who == null) {
            throw new Bad(2, place);
        }
        if (word.equals("wall") && s.walls.size() == 12 || word.equals("clock") && s.clocks.size() == 4
            || word.equals("person") && s.people.size() == 8
            || (word.equals("go") || word.equals("wait")) && who.moves.size() == 6
            || word.equals("look") && who.looks.size() == 4) {
            throw new Bad(3, place);
        }
        next++;
        List<String> got = new ArrayList<>();
        readPattern(s, PATTERNS.get(word), got);
        String[] g = got.toArray(new String[0]);
        int[] v = new int[g.length];
        for (int i = 0; i < g.length; i++) {
            v[i] = Character.isDigit(g[i].charAt(0)) ? Integer.parseInt(g[i]) : NONE;
        }
        switch (word) {
            case "square" -> { s.wide = v[0]; s.tall = v[1]; s.minutes = v[2]; }
            case "wall" -> s.walls.add(v);
            case "clock" -> s.clocks.add(v);
            case "person" -> {
                Who p = new Who();
                p.x = v[0];
                p.y = v[1];
                p.from = v[2];
                s.people.add(p);
            }
            case "go" -> who.moves.add(g);
            case "wait" -> who.moves.add(new String[] {"wait", g[0]});
            default -> who.looks.add(g);
        }
    }

    private void readPattern(Sq s, String pattern, List<String> got) {
        if (pattern.isEmpty()) {
            return;
        }
        for (String part : pattern.split(" ")) {
            String token = tokens.get(next);
            int place = places.get(next);
            if (part.equals("WAY") || part.equals("HABIT")) {
                boolean fits = part.equals("WAY") ? Arrays.asList("north", "east", "south", "west").contains(token) : HABITS.containsKey(token);
                if (!fits) {
                    throw new Bad(1, place);
                }
                got.add(token);
                next++;
                if (part.equals("HABIT")) {
                    readPattern(s, HABITS.get(token), got);
                }
            } else if (Character.isLowerCase(part.charAt(0))) {
                if (!token.equals(part)) {
                    throw new Bad(1, place);
                }
                next++;
            } else {
                if (token.isEmpty() || token.charAt(0) < '0' || token.charAt(0) > '9') {
                    throw new Bad(1, place);
                }
                java.math.BigInteger n = new java.math.BigInteger(token);
                long low = 0, high;
                switch (part) {
                    case "X" -> high = s.wide - 1;
                    case "Y" -> high = s.tall - 1;
                    case "F" -> high = Integer.parseInt(got.get(got.size() - 1)) - 1;
                    case "M" -> high = s.minutes - 1;
                    case "K" -> high = s.clocks.size() - 1;
                    default -> {
                        low = Long.parseLong(part.split(":")[0]);
                        high = Long.parseLong(part.split(":")[1]);
                    }
                }
                if (n.bitLength() > 40 || n.longValue() < low || n.longValue() > high) {
                    throw new Bad(2, place);
                }
                if (part.equals("Y") && taken(s, Integer.parseInt(got.get(got.size() - 1)), n.intValue())) {
                    throw new Bad(2, place);
                }
                got.add(n.toString());
                next++;
            }
        }
    }

    private static boolean taken(Sq s, int x, int y) {
        for (int[] w : s.walls) if (w[0] == x && w[1] == y) return true;
        for (int[] c : s.clocks) if (c[0] == x && c[1] == y) return true;
        return false;
    }

    // ---------------------------------------------------------------- ways and sight

    private int[] where(int p, int minute) {
        Who who = sq.people.get(p);
        List<int[]> way = new ArrayList<>();
        way.add(new int[] {who.x, who.y});
        for (String[] m : who.moves) {
            for (int i = Integer.parseInt(m[1]); i > 0; i--) {
                int[] now = way.get(way.size() - 1).clone();
                int dx = m[0].equals("east") ? 1 : m[0].equals("west") ? -1 : 0;
                int dy = m[0].equals("south") ? 1 : m[0].equals("north") ? -1 : 0;
                int nx = now[0] + dx, ny = now[1] + dy;
                boolean stop = nx < 0 || ny < 0 || nx >= sq.wide || ny >= sq.tall || taken(sq, nx, ny);
                if (!stop) {
                    now[0] = nx;
                    now[1] = ny;
                }
                way.add(now);
            }
        }
        int i = minute - who.from;
        return i < 0 || i >= way.size() ? null : way.get(i);
    }

    private Set<Integer> seenFrom(int clock) {
        Set<Integer> out = new TreeSet<>();
        int[] c = sq.clocks.get(clock);
        for (int dx = -1; dx <= 1; dx++) {
            for (int dy = -1; dy <= 1; dy++) {
                if (dx == 0 && dy == 0) continue;
                int x = c[0] + dx, y = c[1] + dy;
                while (x >= 0 && y >= 0 && x < sq.wide && y < sq.tall) {
                    out.add(x + 100 * y);
                    if (taken(sq, x, y)) break;
                    x += dx;
                    y += dy;
                }
            }
        }
        return out;
    }

    private boolean[][][] sightTable() {
        boolean[][][] t = new boolean[sq.minutes][sq.people.size()][sq.clocks.size()];
        List<Set<Integer>> seen = new ArrayList<>();
        for (int c = 0; c < sq.clocks.size(); c++) seen.add(seenFrom(c));
        for (int m = 0; m < sq.minutes; m++)
            for (int p = 0; p < sq.people.size(); p++) {
                int[] w = where(p, m);
                for (int c = 0; c < sq.clocks.size(); c++) t[m][p][c] = w != null && seen.get(c).contains(w[0] + 100 * w[1]);
            }
        return t;
    }

    private boolean[][][] tableCached;

    private boolean[][][] table() {
        if (tableCached == null) tableCached = sightTable();
        return tableCached;
    }

    // ---------------------------------------------------------------- courses

    private final class Sim {
        Set<Integer> absent = gone;
        int[] pace = paces;
        int[] keepers = new int[4];
        boolean drawn;
        long x;
        boolean branch;
        int until = sq.minutes;
        List<Course> out = new ArrayList<>();

        Course one() {
            run();
            return out.get(0);
        }

        void run() {
            Course c = new Course();
            int n = sq.clocks.size();
            int[] w = new int[n];
            for (int i = 0; i < n; i++) w[i] = sq.clocks.get(i)[5];
            c.wholes.add(w);
            c.rests.add(new int[n]);
            c.kept = new int[n];
            c.keptLast = new int[n];
            Arrays.fill(c.keptLast, NONE);
            begin(c);
        }

        void begin(Course c) {
            int minute = c.looks.size();
            int n = sq.clocks.size();
            int[] s = new int[n];
            for (int i = 0; i < n; i++) s[i] = c.wholes.get(minute)[i] % sq.clocks.get(i)[4];
            c.shows.add(s);
            if (minute == until) {
                out.add(c);
                return;
            }
            // which maybes hold is drawn once, ahead of all settling
            Set<String> lucky = new HashSet<>();
            if (drawn) {
                for (int p = 0; p < sq.people.size(); p++) {
                    if (absent.contains(p) || where(p, minute) == null) continue;
                    for (int l = 0; l < sq.people.get(p).looks.size(); l++) {
                        String[] look = sq.people.get(p).looks.get(l);
                        if (look[1].equals("maybe") && table()[minute][p][Integer.parseInt(look[0])]) {
                            x = (1103515245L * x + 12345L) % 2147483648L;
                            if (x / 65536 % 100 < Integer.parseInt(look[2])) lucky.add(p + "/" + l);
                        }
                    }
                }
            }
            settle(c, new Boolean[sq.people.size()][n], lucky);
        }

        void settle(Course c, Boolean[][] now, Set<String> lucky) {
            int minute = c.looks.size();
            boolean changed = true;
            while (changed) {
                changed = false;
                for (int p = 0; p < now.length; p++)
                    for (int k = 0; k < now[p].length; k++)
                        if (now[p][k] == null) {
                            now[p][k] = decide(c, now, lucky, p, k, minute);
                            changed |= now[p][k] != null;
                        }
            }
            for (int p = 0; p < now.length; p++)
                for (int k = 0; k < now[p].length; k++)
                    if (now[p][k] == null) {
                        for (int way = 0; way < (branch ? 2 : 1) && out.size() <= 128; way++) {
                            Course d = branch ? c.copy() : c;
                            d.open.add(100 * minute + 10 * p + k);
                            Boolean[][] then = new Boolean[now.length][];
                            for (int i = 0; i < now.length; i++) then[i] = now[i].clone();
                            then[p][k] = way == 1;
                            settle(d, then, lucky);
                        }
                        return;
                    }
            finish(c, now);
        }

        Boolean decide(Course c, Boolean[][] now, Set<String> lucky, int p, int k, int minute) {
            if (absent.contains(p) || !table()[minute][p][k]) return false;
            boolean can = false;
            List<String[]> looks = sq.people.get(p).looks;
            for (int l = 0; l < looks.size(); l++) {
                if (Integer.parseInt(looks.get(l)[0]) != k) continue;
                Boolean h = holds(c, now, lucky, p, k, l, minute);
                if (h == null) can = true;
                else if (h) return true;
            }
            return can ? null : false;
        }

        Boolean holds(Course c, Boolean[][] now, Set<String> lucky, int p, int k, int l, int minute) {
            String[] look = sq.people.get(p).looks.get(l);
            int a = look.length > 2 ? Integer.parseInt(look[2]) : 0;
            int b = look.length > 3 ? Integer.parseInt(look[3]) : 0;
            switch (look[1]) {
                case "always":
                    return true;
                case "each":
                    for (int m = b; m <= minute; m += a) if (m == minute) return true;
                    return false;
                case "seeing":
                    return minute > 0 && c.looks.get(minute - 1)[p][a] && c.shows.get(minute - 1)[a] == b;
                case "with":
                    return a < now.length ? now[a][k] : Boolean.FALSE;
                case "unless":
                    if (a >= now.length) return true;
                    return now[a][k] == null ? null : Boolean.valueOf(!now[a][k]);
                default:
                    return lucky.contains(p + "/" + l);
            }
        }

        void finish(Course c, Boolean[][] now) {
            int minute = c.looks.size();
            int n = sq.clocks.size();
            boolean[][] looks = new boolean[now.length][n];
            int[] w = c.wholes.get(minute).clone(), r = c.rests.get(minute).clone();
            for (int k = 0; k < n; k++) {
                boolean eye = false;
                for (int p = 0; p < now.length; p++) {
                    looks[p][k] = now[p][k];
                    eye |= now[p][k];
                }
                if (!eye && c.kept[k] < keepers[k]) {
                    c.kept[k]++;
                    c.keptLast[k] = minute;
                } else if (!eye) {
                    int over = sq.clocks.get(k)[3];
                    for (int i = 0; i < pace[k]; i++) {
                        r[k]++;
                        if (r[k] == over) {
                            r[k] = 0;
                            w[k]++;
                        }
                    }
                }
            }
            c.looks.add(looks);
            c.wholes.add(w);
            c.rests.add(r);
            begin(c);
        }
    }

    private Course plainCache;

    private Course plainNow() {
        if (plainCache == null) plainCache = new Sim().one();
        return plainCache;
    }

    private void stale() {
        plainCache = null;
        cached = null;
    }

    private List<Course> every() {
        if (cached == null) {
            Sim s = new Sim();
            s.branch = true;
            s.run();
            cached = s.out;
        }
        return cached;
    }

    private boolean tooMany() {
        return every().size() > 128;
    }

    private String sight(Course c, int p, int before) {
        StringBuilder b = new StringBuilder();
        for (int m = 0; m < before; m++) {
            for (int k = 0; k < sq.clocks.size(); k++) if (c.looks.get(m)[p][k]) b.append(k).append('=').append(c.shows.get(m)[k]).append(' ');
            b.append('/');
        }
        return b.toString();
    }

    private boolean same(Course a, Course b, int p) {
        return sight(a, p, sq.minutes).equals(sight(b, p, sq.minutes));
    }

    private int one(List<Course> some, int clock, int minute) {
        Set<Integer> s = new HashSet<>();
        for (Course c : some) s.add(c.shows.get(minute)[clock]);
        return s.size() == 1 ? s.iterator().next() : NONE;
    }

    // ---------------------------------------------------------------- the face

    private boolean badP(int p) { return p < 0 || p >= sq.people.size(); }
    private boolean badC(int c) { return c < 0 || c >= sq.clocks.size(); }
    private boolean badM(int m) { return m < 0 || m >= sq.minutes; }
    private boolean badE(int m) { return m < 0 || m > sq.minutes; }
    private boolean none() { return sq.lines == 0; }

    public int feed(int a, int b, int c, int d, int e) {
        if (tape.size() + 20 > 2400) return NONE;
        for (int v : new int[] {a, b, c, d, e})
            for (byte z : java.nio.ByteBuffer.allocate(4).putInt(v).array()) tape.add(z & 255);
        return tape.size();
    }

    public int end(int n) {
        if (n < 0 || n > tape.size()) return NONE;
        while (tape.size() > n) tape.remove(tape.size() - 1);
        return n;
    }

    public int square() {
        StringBuilder b = new StringBuilder();
        for (int z : tape) b.append((char) z);
        tape.clear();
        try {
            Sq read = readText(b.toString());
            faultKind = 0;
            faultPlace = NONE;
            sq = read;
            gone = new HashSet<>();
            paces = read.clocks.stream().mapToInt(c -> c[2]).toArray();
            tableCached = null;
            stale();
            return sq.lines;
        } catch (Bad bad) {
            faultKind = bad.kind;
            faultPlace = bad.place;
            return -4;
        }
    }

    public int fault(int what) { return what == 0 ? faultKind : what == 1 ? faultPlace : NONE; }

    public int at(int p, int m) {
        if (badP(p) || badM(m)) return -2;
        int[] w = gone.contains(p) ? null : where(p, m);
        return w == null ? NONE : w[0] + 100 * w[1];
    }

    public int sees(int p, int c, int m) {
        if (badP(p) || badC(c) || badM(m)) return -2;
        return !gone.contains(p) && table()[m][p][c] ? 1 : 0;
    }

    public int looks(int p, int c, int m) {
        if (badP(p) || badC(c) || badM(m)) return -2;
        Course z = plainNow();
        return z.open.contains(100 * m + 10 * p + c) ? 2 : z.looks.get(m)[p][c] ? 1 : 0;
    }

    public int eyes(int c, int m) {
        if (badC(c) || badM(m)) return -2;
        int n = 0;
        for (boolean[] l : plainNow().looks.get(m)) n += l[c] ? 1 : 0;
        return n;
    }

    public int shows(int c, int m) { return badC(c) || badE(m) ? -2 : plainNow().shows.get(m)[c]; }

    public int value(int c, int m, int what) {
        if (badC(c) || badE(m) || what < 0 || what > 2) return -2;
        return what == 0 ? plainNow().wholes.get(m)[c] : what == 1 ? plainNow().rests.get(m)[c] : sq.clocks.get(c)[3];
    }

    public int still(int c, int what) {
        if (badC(c) || what < 0 || what > 2) return -2;
        StringBuilder b = new StringBuilder();
        for (int m = 0; m < sq.minutes; m++) b.append(eyes(c, m) > 0 ? 'L' : '.');
        String s = b.toString();
        if (what == 0) return s.replace(".", "").length();
        if (what == 2) return s.indexOf('.');
        return Arrays.stream(s.split("\\.")).mapToInt(String::length).max().orElse(0);
    }

    public int open() { return none() ? -2 : plainNow().open.size(); }

    public int opens(int i) {
        if (none()) return -2;
        return i < 0 || i >= open() ? NONE : plainNow().open.get(i);
    }

    private int bellOf(Course z, int n, int h, int upTo) {
        for (int m = 0; m <= upTo; m++) if (Arrays.stream(z.shows.get(m)).filter(v -> v == h).count() >= n) return m;
        return NONE;
    }

    public int bell(int n, int h) {
        return none() || n < 1 || n > 4 || h < 0 || h > 59 ? -2 : bellOf(plainNow(), n, h, sq.minutes);
    }

    public int courses() { return none() ? -2 : tooMany() ? -3 : every().size(); }

    public int among(int c, int m, int h) {
        if (badC(c) || badE(m)) return -2;
        return tooMany() ? -3 : (int) every().stream().filter(z -> z.shows.get(m)[c] == h).count();
    }

    private List<Course> agreeing(long[] row, int sightings) {
        List<Course> out = new ArrayList<>();
        for (Course z : every()) {
            boolean all = true;
            for (int i = 0; i < row.length / 3; i++)
                if ((sightings >> i & 1) != 0) all &= z.shows.get((int) row[3 * i + 1])[(int) row[3 * i]] == row[3 * i + 2];
            if (all) out.add(z);
        }
        return out;
    }

    private int rowTrouble(int s, boolean eight) {
        if (s < 0 || s > 3 || none()) return -2;
        if (rows[s] == null) return -6;
        if (rows[s].length % 3 != 0 || eight && rows[s].length > 24) return -2;
        if (tooMany()) return -3;
        for (int i = 0; i < rows[s].length; i += 3)
            if (rows[s][i] < 0 || rows[s][i] >= sq.clocks.size() || rows[s][i + 1] < 0 || rows[s][i + 1] > sq.minutes) return -2;
        return 0;
    }

    public int agree(int s) {
        int t = rowTrouble(s, false);
        return t != 0 ? t : agreeing(rows[s], -1).size();
    }

    public int sure(int s, int c, int m) {
        if (badC(c) || badE(m)) return -2;
        int t = rowTrouble(s, false);
        return t != 0 ? t : one(agreeing(rows[s], -1), c, m);
    }

    public int needs(int s, int c, int m) {
        if (badC(c) || badE(m)) return -2;
        int t = rowTrouble(s, true);
        if (t != 0) return t;
        if (one(agreeing(rows[s], -1), c, m) == NONE) return NONE;
        int best = 99;
        for (int set = 0; set < 1 << rows[s].length / 3; set++)
            if (one(agreeing(rows[s], set), c, m) != NONE) best = Math.min(best, Integer.bitCount(set));
        return best;
    }

    private List<Course> like(int... people) {
        List<Course> out = new ArrayList<>();
        for (Course z : every()) {
            boolean all = true;
            for (int p : people) all &= same(z, every().get(0), p);
            if (all) out.add(z);
        }
        return out;
    }

    public int knows(int p, int c, int m) {
        if (badP(p) || badC(c) || badE(m)) return -2;
        return tooMany() ? -3 : one(like(p), c, m);
    }

    public int common(int set, int c, int m) {
        if (badC(c) || badE(m) || set < 0 || set >> sq.people.size() != 0) return -2;
        if (tooMany()) return -3;
        List<Course> in = new ArrayList<>();
        in.add(every().get(0));
        boolean grown = true;
        while (grown) {
            grown = false;
            for (int p = 0; p < sq.people.size(); p++) {
                if ((set >> p & 1) == 0) continue;
                Set<String> met = new HashSet<>();
                for (Course z : in) met.add(sight(z, p, sq.minutes));
                for (Course z : every())
                    if (!in.contains(z) && met.contains(sight(z, p, sq.minutes))) {
                        in.add(z);
                        grown = true;
                    }
            }
        }
        return one(in, c, m);
    }

    public int alike(int p) { return badP(p) ? -2 : tooMany() ? -3 : like(p).size(); }

    public int lie(int p, int c, int m, int h) {
        int s = shown(p, c, m, h);
        return s < NONE ? s : s == NONE ? 1 : 0;
    }

    public int shown(int p, int c, int m, int h) {
        if (badP(p) || badC(c) || badE(m)) return -2;
        if (tooMany()) return -3;
        for (int q = 0; q < sq.people.size(); q++)
            if (q != p && like(q).stream().noneMatch(z -> z.shows.get(m)[c] == h)) return q;
        return NONE;
    }

    public int both(int p, int q, int c, int m) {
        if (badP(p) || badP(q) || p == q || badC(c) || badE(m)) return -2;
        return tooMany() ? -3 : one(like(p, q), c, m);
    }

    public int learns(int p, int c, int m) {
        if (badP(p) || badC(c) || badE(m)) return -2;
        if (tooMany()) return -3;
        for (int n = 0; n <= sq.minutes; n++) {
            String mine = sight(every().get(0), p, n);
            List<Course> some = new ArrayList<>();
            for (Course z : every()) if (sight(z, p, n).equals(mine)) some.add(z);
            if (one(some, c, m) != NONE) return n;
        }
        return NONE;
    }

    public int sights(int p) {
        if (badP(p)) return -2;
        if (tooMany()) return -3;
        Set<String> s = new HashSet<>();
        for (Course z : every()) s.add(sight(z, p, sq.minutes));
        return s.size();
    }

    public int meets(int p, int q) {
        if (badP(p) || badP(q) || p == q) return -2;
        int n = 0;
        for (int m = 0; m < sq.minutes; m++) {
            int[] a = where(p, m), b = where(q, m);
            if (a != null && b != null && Math.max(Math.abs(a[0] - b[0]), Math.abs(a[1] - b[1])) < 2) n++;
        }
        return n;
    }

    public int spots(int c) {
        return badC(c) ? -2 : (int) seenFrom(c).stream().filter(z -> !taken(sq, z % 100, z / 100)).count();
    }

    public int when(int c, int h) {
        if (badC(c)) return -2;
        for (int m = 0; m <= sq.minutes; m++) if (shows(c, m) == h) return m;
        return NONE;
    }

    public int hours(int c) {
        if (badC(c)) return -2;
        Set<Integer> s = new HashSet<>();
        for (int m = 0; m <= sq.minutes; m++) s.add(shows(c, m));
        return s.size();
    }

    private Set<Integer> setOf(int bits) {
        Set<Integer> s = new HashSet<>();
        for (int p = 0; p < 8; p++) if ((bits >> p & 1) != 0) s.add(p);
        return s;
    }

    private Course courseWithout(Set<Integer> absent) {
        Sim s = new Sim();
        s.absent = absent;
        return s.one();
    }

    public int without(int p, int c, int m) {
        if (badP(p) || badC(c) || badE(m)) return -2;
        Set<Integer> s = new HashSet<>(gone);
        s.add(p);
        return courseWithout(s).shows.get(m)[c];
    }

    public int hush(int n, int h, int m, int what) {
        if (none() || n < 1 || n > 4 || h < 0 || h > 59 || badE(m) || what < 0 || what > 1) return -2;
        int best = NONE;
        for (int set = 0; set < 1 << sq.people.size(); set++)
            if ((best == NONE || Integer.bitCount(set) < Integer.bitCount(best)) && bellOf(courseWithout(setOf(set)), n, h, m) != NONE) best = set;
        return best == NONE ? NONE : what == 0 ? Integer.bitCount(best) : best;
    }

    public int call(int p, boolean away) {
        if (badP(p)) return -2;
        stale();
        return (away ? gone.add(p) : gone.remove(p)) ? 1 : 0;
    }

    public int away(int c, int m, int h, int what) {
        if (badC(c) || badE(m) || what < 0 || what > 1) return -2;
        int best = NONE;
        for (int set = 0; set < 1 << sq.people.size(); set++)
            if ((best == NONE || Integer.bitCount(set) < Integer.bitCount(best)) && courseWithout(setOf(set)).shows.get(m)[c] == h) best = set;
        return best == NONE ? NONE : what == 0 ? Integer.bitCount(best) : best;
    }

    private Course courseKept(int c, int n) {
        Sim s = new Sim();
        if (c < 0) Arrays.fill(s.keepers, n);
        else s.keepers[c] = n;
        return s.one();
    }

    public int kept(int c, int n, int m) { return badC(c) || badE(m) || n < 0 || n > 40 ? -2 : courseKept(c, n).shows.get(m)[c]; }

    public int keep(int c, int m, int h) {
        if (badC(c) || badE(m)) return -2;
        for (int n = 0; n <= 40; n++) if (kept(c, n, m) == h) return n;
        return NONE;
    }

    public int shifts(int c, int m, int h, int each) {
        if (each < 1 || each > 40) return -2;
        int n = keep(c, m, h);
        return n < 0 ? n : (int) Math.ceil(n / (double) each);
    }

    public int last(int c, int m, int h) {
        int n = keep(c, m, h);
        return n < 0 ? n : courseKept(c, n).keptLast[c];
    }

    public int all(int k, int m, int h) {
        if (none() || badE(m) || k < 1 || k > 4) return -2;
        for (int n = 0; n <= 40; n++)
            if (Arrays.stream(courseKept(-1, n).shows.get(m)).filter(v -> v == h).count() >= k) return n;
        return NONE;
    }

    public int pace(int c, int m, int h) {
        if (badC(c) || badE(m)) return -2;
        for (int z = 0; z <= 60; z++) {
            Sim s = new Sim();
            s.pace = paces.clone();
            s.pace[c] = z;
            if (s.one().shows.get(m)[c] == h) return z;
        }
        return NONE;
    }

    public int mends(int c, int pace) {
        if (badC(c) || pace < 0 || pace > 60) return -2;
        int was = paces[c];
        paces = paces.clone();
        paces[c] = pace;
        stale();
        return was;
    }

    public int day(int seed, int c, int m) {
        if (seed < 0 || seed > 2000000000 || badC(c) || badE(m)) return -2;
        Sim s = new Sim();
        s.drawn = true;
        s.x = seed;
        return s.one().shows.get(m)[c];
    }

    public int days(int seed, int n, int c, int m, int h) {
        if (seed < 0 || seed > 2000000000 || n < 1 || n > 20 || badC(c) || badE(m)) return -2;
        int found = 0;
        for (int i = 0; i < n; i++) {
            Sim s = new Sim();
            s.drawn = true;
            s.x = (long) seed + i;
            found += s.one().shows.get(m)[c] == h ? 1 : 0;
        }
        return found;
    }

    public int count(int what) {
        return switch (what) {
            case 0 -> sq.wide;
            case 1 -> sq.tall;
            case 2 -> sq.minutes;
            case 3 -> sq.clocks.size();
            case 4 -> sq.people.size();
            case 5 -> sq.walls.size();
            case 6 -> sq.lines;
            case 7 -> tape.size();
            case 8 -> gone.stream().mapToInt(p -> 1 << p).sum();
            case 9 -> (int) Arrays.stream(rows).filter(r -> r != null).count();
            default -> NONE;
        };
    }

    public int image(int k) {
        if (k < 0 || k > 2) return -2;
        images[k] = new Object[] {sq, paces.clone(), new HashSet<>(gone)};
        return 0;
    }

    @SuppressWarnings("unchecked")
    public int back(int k) {
        if (k < 0 || k > 2) return -2;
        if (images[k] == null) return -6;
        sq = (Sq) images[k][0];
        paces = ((int[]) images[k][1]).clone();
        gone = new HashSet<>((Set<Integer>) images[k][2]);
        tableCached = null;
        stale();
        return 0;
    }

    public int row(int s, int width, int n) {
        if (s < 0 || s > 3 || width < 0 || width > 3 || n > 60) return -2;
        if (n < 0) return -3;
        rows[s] = new long[n];
        widths[s] = width;
        return 0;
    }

    public int write(int s, int i, long v) {
        if (s < 0 || s > 3) return -2;
        if (rows[s] == null) return -6;
        if (i < 0 || i >= rows[s].length) return -7;
        int shift = 64 - (8 << widths[s]);
        rows[s][i] = v << shift >> shift;
        return 0;
    }

    public int paste(int s, int i, int to, int k, int n) {
        if (s < 0 || s > 3 || to < 0 || to > 3) return -2;
        if (rows[s] == null || rows[to] == null) return -6;
        if (widths[s] != widths[to]) return -8;
        if (i < 0 || k < 0 || n < 0 || (long) i + n > rows[s].length || (long) k + n > rows[to].length) return -7;
        long[] was = rows[s].clone();
        for (int z = 0; z < n; z++) rows[to][k + z] = was[i + z];
        return 0;
    }
}
