import java.util.ArrayList;
import java.util.Arrays;
import java.util.HashMap;
import java.util.List;
import java.util.Map;

/**
 * The document once more, written as plainly as can be and without looking at how HeldPaths does it: sets are
 * tried one by one, chances are summed over all that may happen, parting by 0 is an exception.
 */
final class Model {
    static final class Way {
        int kind, a, b, stay, come;
        boolean there = true;

        Way copy() {
            Way w = new Way();
            w.kind = kind; w.a = a; w.b = b; w.stay = stay; w.come = come; w.there = there;
            return w;
        }
    }

    static final class Man {
        int clearing, path = -9, pay;

        Man copy() {
            Man m = new Man();
            m.clearing = clearing; m.path = path; m.pay = pay;
            return m;
        }
    }

    static final class World {
        List<Way> ways = new ArrayList<>();
        List<Man> men = new ArrayList<>();
        List<int[]> rules = new ArrayList<>();
        boolean rain;
        int[] weight = {1, 1, 1, 1, 1, 1, 1, 1};
        int night;
        int z = 1;

        World copy() {
            World w = new World();
            for (Way x : ways) w.ways.add(x.copy());
            for (Man x : men) w.men.add(x.copy());
            w.rules.addAll(rules);
            w.rain = rain;
            w.weight = weight.clone();
            w.night = night;
            w.z = z;
            return w;
        }
    }

    static final class Fault extends RuntimeException {
        private static final long serialVersionUID = 1L;
        final int place;

        Fault(int place) { this.place = place; }
    }

    static final String[] KIND_NAMES = {"path", "track", "wall", "deer", "bog", "ride"};
    static final int[] UNDER = {-1, 0, 0, 1, 1, 0};

    World world = new World();
    World kept;
    StringBuilder tape = new StringBuilder();
    List<int[]> rows = new ArrayList<>();
    /** byte[], short[], int[], long[] or null. */
    Object[] sheets = new Object[4];
    /** An Integer is a path's number. */
    Object[] shelves = new Object[4];
    List<Integer> trace = new ArrayList<>();

    static boolean in(int v, int low, int high) { return low <= v && v <= high; }

    boolean isPath(int p) { return in(p, 0, world.ways.size() - 1); }

    boolean isMan(int w) { return in(w, 0, world.men.size() - 1); }

    // ---- the wood

    int feed(long eight, int n) {
        if (!in(n, 1, 8)) return -1;
        if (tape.length() + n > 240) return -2;
        for (int i = 0; i < n; i++) tape.append((char) (eight >> 8 * i & 0xff));
        return tape.length();
    }

    int wood() {
        String text = tape.toString();
        tape = new StringBuilder();
        try {
            World told = read(text);
            told.rules = world.rules;
            told.z = world.z;
            world = told;
            rows.clear();
            return world.ways.size();
        } catch (Fault f) {
            return -100 - f.place;
        }
    }

    private String text;
    private int place;

    private World read(String whole) {
        text = whole;
        place = 0;
        World w = new World();
        for (String head = word(); head != null; head = word()) {
            int kind = Arrays.asList(KIND_NAMES).indexOf(head);
            if (kind >= 0) {
                readWay(w, kind, head);
            } else if (head.equals("walker")) {
                if (w.men.size() == 4) throw new Fault(place - head.length());
                Man m = new Man();
                m.clearing = number(7);
                if (next("pay")) m.pay = number(99);
                w.men.add(m);
            } else if (head.equals("rain")) {
                w.rain = true;
            } else if (head.equals("weight")) {
                int c = number(7);
                w.weight[c] = number(9);
            } else {
                throw new Fault(place - head.length());
            }
            if (!next(";")) throw new Fault(place);
        }
        return w;
    }

    private void readWay(World w, int kind, String head) {
        if (w.ways.size() == 8) throw new Fault(place - head.length());
        Way x = new Way();
        x.kind = kind;
        x.a = number(7);
        skip();
        int at = place;
        x.b = number(7);
        if (x.a == x.b) throw new Fault(at);
        if (!next("stay")) throw new Fault(place);
        x.stay = number(8);
        if (!next("come")) throw new Fault(place);
        x.come = number(8);
        x.there = !next("gone");
        w.ways.add(x);
    }

    private void skip() {
        while (place < text.length() && text.charAt(place) == ' ') place++;
    }

    /** The next name, number or sign, or null at the end; place is behind it then. */
    private String word() {
        skip();
        if (place == text.length()) return null;
        String rest = text.substring(place);
        String w = rest.replaceFirst("(?s)^([a-z]+|[0-9]+|.).*$", "$1");
        place += w.length();
        return w;
    }

    private boolean next(String wanted) {
        skip();
        int at = place;
        boolean is = wanted.equals(word());
        if (!is) place = at;
        return is;
    }

    private int number(int most) {
        skip();
        int at = place;
        String w = word();
        if (w == null || !w.matches("[0-9]{1,2}") || Integer.parseInt(w) > most) throw new Fault(at);
        return Integer.parseInt(w);
    }

    int path(int kind, int a, int b, int stay, int come) {
        if (!in(kind, 0, 5) || !in(a, 0, 7) || !in(b, 0, 7) || a == b || !in(stay, 0, 8) || !in(come, 0, 8)) return -1;
        if (world.ways.size() == 8) return -2;
        Way w = new Way();
        w.kind = kind; w.a = a; w.b = b; w.stay = stay; w.come = come;
        world.ways.add(w);
        return world.ways.size() - 1;
    }

    int pathOf(int p, int what) {
        if (!isPath(p)) return -1;
        Way w = world.ways.get(p);
        int[] all = {w.kind, w.a, w.b, w.stay, w.come, w.there ? 1 : 0, stays(world, p), comes(world, p), menOn(world, p)};
        return in(what, 0, 8) ? all[what] : -1;
    }

    static int stays(World world, int p) {
        Way w = world.ways.get(p);
        int track = w.stay + 2 > 8 ? 8 : w.stay + 2;
        if (w.kind == 0) return w.stay;
        if (w.kind == 1) return track;
        if (w.kind == 2) return 8;
        if (w.kind == 3) return track / 2;
        if (w.kind == 4) return world.rain ? (track < 3 ? 0 : track - 3) : track;
        for (Man m : world.men) if (m.path == -9 && (m.clearing == w.a || m.clearing == w.b)) return 8;
        return w.stay;
    }

    static int comes(World world, int p) {
        Way w = world.ways.get(p);
        if (w.kind == 2 || w.kind == 4 && world.rain) return 0;
        if (w.kind == 3) return w.come + 2 > 8 ? 8 : w.come + 2;
        return w.come;
    }

    static int menOn(World world, int p) {
        int set = 0;
        for (int i = 0; i < world.men.size(); i++) if (world.men.get(i).path == p) set |= 1 << i;
        return set;
    }

    static int thereSet(World world) {
        int set = 0;
        for (int p = 0; p < world.ways.size(); p++) if (world.ways.get(p).there) set |= 1 << p;
        return set;
    }

    int open(int p, boolean is) {
        if (!isPath(p)) return -1;
        if (menOn(world, p) != 0) return -4;
        boolean was = world.ways.get(p).there;
        world.ways.get(p).there = is;
        return was == is ? 0 : 1;
    }

    int rain(boolean is) {
        boolean was = world.rain;
        world.rain = is;
        return was == is ? 0 : 1;
    }

    int weigh(int c, int v) {
        if (!in(c, 0, 7) || !in(v, 0, 9)) return -1;
        int was = world.weight[c];
        world.weight[c] = v;
        return was;
    }

    int walker(int c, int pay) {
        if (!in(c, 0, 7) || !in(pay, 0, 99)) return -1;
        if (world.men.size() == 4) return -2;
        Man m = new Man();
        m.clearing = c;
        m.pay = pay;
        world.men.add(m);
        return world.men.size() - 1;
    }

    int walkerOf(int w, int what) {
        if (!isMan(w)) return -1;
        Man m = world.men.get(w);
        if (what == 0) return m.path >= 0 ? -9 : m.clearing;
        if (what == 1) return m.path;
        return what == 2 ? m.pay : -1;
    }

    // ---- days, nights

    private boolean canStep(int w, int p) {
        Man m = world.men.get(w);
        Way x = world.ways.get(p);
        return x.there && m.path < 0 && (x.a == m.clearing || x.b == m.clearing);
    }

    int walk(int w, int p) {
        if (!isMan(w) || !isPath(p)) return -1;
        if (!canStep(w, p)) return -4;
        Man m = world.men.get(w);
        Way x = world.ways.get(p);
        m.clearing = x.a + x.b - m.clearing;
        return m.clearing;
    }

    int on(int w, int p) {
        if (!isMan(w) || !isPath(p)) return -1;
        if (!canStep(w, p)) return -4;
        world.men.get(w).path = p;
        return Integer.bitCount(menOn(world, p));
    }

    int off(int w, int c) {
        if (!isMan(w) || !in(c, 0, 7)) return -1;
        Man m = world.men.get(w);
        if (m.path < 0) return -4;
        Way x = world.ways.get(m.path);
        if (x.a != c && x.b != c) return -4;
        m.path = -9;
        m.clearing = c;
        return 1;
    }

    int put(int w, int c) {
        if (!isMan(w) || !in(c, 0, 7)) return -1;
        Man m = world.men.get(w);
        int was = m.path >= 0 ? -9 : m.clearing;
        m.path = -9;
        m.clearing = c;
        return was;
    }

    static void oneNight(World world) {
        world.night++;
        for (int p = 0; p < world.ways.size(); p++) {
            if (menOn(world, p) != 0) continue;
            world.z = world.z * 1103515245 + 12345;
            int d = (world.z >>> 16) % 8;
            Way w = world.ways.get(p);
            w.there = w.there ? d < stays(world, p) : d < comes(world, p);
        }
    }

    int night(int n) {
        if (!in(n, 0, 20)) return -1;
        for (int i = 0; i < n; i++) oneNight(world);
        return thereSet(world);
    }

    int count(int what) {
        int on = 0, all = 0, ons = 0;
        for (Man m : world.men) {
            all += m.pay;
            if (m.path >= 0) {
                ons += m.pay;
                on |= 1 << m.path;
            }
        }
        int[] answers = {world.night, thereSet(world), on, all, ons};
        return in(what, 0, 4) ? answers[what] : -1;
    }

    int seed(int v) {
        int was = world.z;
        world.z = v;
        return was;
    }

    // ---- what will be

    /** Lengths of shortest ways between all clearings by a set of paths, 99 if there is none. */
    static int[][] lengths(World world, int set) {
        int[][] far = new int[8][8];
        for (int i = 0; i < 8; i++) for (int j = 0; j < 8; j++) far[i][j] = i == j ? 0 : 99;
        for (int p = 0; p < world.ways.size(); p++) {
            Way w = world.ways.get(p);
            if ((set >> p & 1) == 1) far[w.a][w.b] = far[w.b][w.a] = 1;
        }
        for (int k = 0; k < 8; k++)
            for (int i = 0; i < 8; i++)
                for (int j = 0; j < 8; j++) far[i][j] = Math.min(far[i][j], far[i][k] + far[k][j]);
        return far;
    }

    int way(int a, int b) {
        if (!in(a, 0, 7) || !in(b, 0, 7)) return -1;
        int d = lengths(world, thereSet(world))[a][b];
        return d < 99 ? d : -3;
    }

    static int reached(World world, int a) {
        int[][] far = lengths(world, thereSet(world));
        int set = 0;
        for (int c = 0; c < 8; c++) if (far[a][c] < 99) set |= 1 << c;
        return set;
    }

    int reach(int a) { return in(a, 0, 7) ? reached(world, a) : -1; }

    /** How likely a set of paths becomes another over a night, by 8 to the number of paths. */
    static long becomes(World world, int from, int to, int also) {
        long product = 1;
        for (int p = 0; p < world.ways.size(); p++) {
            int is = (from >> p & 1) == 1 ? stays(world, p) : comes(world, p);
            if (menOn(world, p) != 0 || (also >> p & 1) == 1) is = 8;
            product *= (to >> p & 1) == 1 ? is : 8 - is;
        }
        return product;
    }

    static long whole(World world) { return Math.round(Math.pow(8, world.ways.size())); }

    /** Of each pair of clearings, by whole(). */
    static long[][] allOdds(World world, int also) {
        long[][] sum = new long[8][8];
        for (int to = 0; to < 1 << world.ways.size(); to++) {
            long is = becomes(world, thereSet(world), to, also);
            if (is == 0) continue;
            int[][] far = lengths(world, to);
            for (int a = 0; a < 8; a++) for (int b = 0; b < 8; b++) if (far[a][b] < 99) sum[a][b] += is;
        }
        return sum;
    }

    static long partOf(long above, long below, int part) {
        long x = above, y = below;
        while (y != 0) {
            long t = x % y;
            x = y;
            y = t;
        }
        return part == 0 ? above / x : below / x;
    }

    long odds(int a, int b, int part) {
        if (!in(a, 0, 7) || !in(b, 0, 7) || !in(part, 0, 1)) return -1;
        return partOf(allOdds(world, 0)[a][b], whole(world), part);
    }

    int held(int a, int b, int n) {
        if (!in(a, 0, 7) || !in(b, 0, 7) || !in(n, 0, 3)) return -1;
        int best = -1;
        long most = -1;
        for (int size = 0; size <= n; size++) {
            for (int set = 0; set < 256; set++) {
                if (Integer.bitCount(set) != size || (set & thereSet(world)) != set) continue;
                long is = allOdds(world, set)[a][b];
                if (is > most) {
                    most = is;
                    best = set;
                }
            }
        }
        return best;
    }

    int keepers(int a, int b, int what) {
        if (!in(a, 0, 7) || !in(b, 0, 7) || !in(what, 0, 1)) return -1;
        for (int size = 0; size <= 8; size++) {
            for (int set = 0; set < 256; set++) {
                if (Integer.bitCount(set) != size || (set & thereSet(world)) != set) continue;
                int use = set;
                for (int p = 0; p < world.ways.size(); p++)
                    if (world.ways.get(p).there && (menOn(world, p) != 0 || stays(world, p) == 8)) use |= 1 << p;
                if (lengths(world, use)[a][b] < 99) return what == 0 ? size : set;
            }
        }
        return -3;
    }

    int home(int a, int eighths) {
        if (!in(a, 0, 7) || !in(eighths, 0, 8)) return -1;
        int set = 0;
        long[][] odds = allOdds(world, 0);
        for (int c = 0; c < 8; c++) if (8 * odds[c][a] >= eighths * whole(world)) set |= 1 << c;
        return set;
    }

    /** By whole() to the n-th. */
    private long best(int from, int b, int set, int n, Map<Integer, Long> known) {
        int[][] far = lengths(world, set);
        if (n == 0) return far[from][b] < 99 ? 1 : 0;
        int key = (from * 3 + n) * 256 + set;
        if (known.containsKey(key)) return known.get(key);
        long most = 0;
        for (int c = 0; c < 8; c++) {
            if (far[from][c] == 99) continue;
            long sum = 0;
            for (int to = 0; to < 1 << world.ways.size(); to++) {
                long is = becomes(world, set, to, 0);
                if (is != 0) sum += is * best(c, b, to, n - 1, known);
            }
            most = Math.max(most, sum);
        }
        known.put(key, most);
        return most;
    }

    long within(int a, int b, int n, int part) {
        if (!in(a, 0, 7) || !in(b, 0, 7) || !in(n, 0, 2) || !in(part, 0, 1)) return -1;
        long below = 1;
        for (int i = 0; i < n; i++) below *= whole(world);
        return partOf(best(a, b, thereSet(world), n, new HashMap<>()), below, part);
    }

    int seek(int a) {
        if (!in(a, 0, 7)) return -1;
        long[][] odds = allOdds(world, 0);
        int best = -3;
        for (int c = 7; c >= 0; c--) {
            if ((reached(world, a) >> c & 1) == 1) continue;
            long is = world.weight[c] * odds[a][c];
            if (is > 0 && (best < 0 || is >= world.weight[best] * odds[a][best])) best = c;
        }
        return best;
    }

    // ---- rules

    int rule(int kind, int a) {
        if (!in(kind, 0, 3) || !in(a, 0, 7)) return -1;
        if (world.rules.size() == 4) return -2;
        world.rules = new ArrayList<>(world.rules);
        world.rules.add(new int[] {kind, a});
        return world.rules.size() - 1;
    }

    int ruleOf(int rule, int what) {
        if (!in(rule, 0, world.rules.size() - 1) || !in(what, 0, 1)) return -1;
        return world.rules.get(rule)[what];
    }

    int goes(int rule, int w) {
        if (!in(rule, 0, world.rules.size() - 1) || !isMan(w)) return -1;
        Man m = world.men.get(w);
        int kind = world.rules.get(rule)[0], a = world.rules.get(rule)[1];
        if (m.path >= 0) return -9;
        int[][] far = lengths(world, thereSet(world));
        int to = a;
        if (kind == 2) {
            long[][] odds = allOdds(world, 0);
            to = -1;
            for (int c = 0; c < 8; c++) {
                if (far[m.clearing][c] == 99 || far[a][c] == 99 || 2 * odds[c][a] < whole(world)) continue;
                if (to < 0 || far[c][a] > far[to][a]) to = c;
            }
            if (to < 0) return -9;
        }
        if (kind == 3 && far[m.clearing][a] != 1) return -9;
        if (far[m.clearing][to] == 99 || m.clearing == to) return -9;
        for (int p = 0; p < world.ways.size(); p++) {
            Way x = world.ways.get(p);
            if (x.there && x.a == m.clearing && far[x.b][to] + 1 == far[x.a][to]) return p;
            if (x.there && x.b == m.clearing && far[x.a][to] + 1 == far[x.b][to]) return p;
        }
        throw new IllegalStateException();
    }

    int does(int rule, int w) {
        int p = goes(rule, w);
        if (p == -1) return -1;
        if (p == -9) return 0;
        if (world.rules.get(rule)[0] == 1) on(w, p);
        else walk(w, p);
        return 1;
    }

    // ---- rows

    private List<int[]> rowsToCome(int n) {
        List<int[]> all = new ArrayList<>();
        World w = world.copy();
        for (int i = 0; i < n; i++) {
            oneNight(w);
            all.add(new int[] {thereSet(w), Integer.bitCount(reached(w, 0))});
        }
        return all;
    }

    int prove(int n) {
        if (!in(n, 1, 12)) return -1;
        rows = rowsToCome(n);
        return n;
    }

    int row(int i, int what) {
        return in(i, 0, rows.size() - 1) && in(what, 0, 1) ? rows.get(i)[what] : -9;
    }

    int alterRow(int i, int what, int v) {
        int was = row(i, what);
        if (in(i, 0, rows.size() - 1) && in(what, 0, 1)) rows.get(i)[what] = v;
        return was;
    }

    int judge() {
        List<int[]> due = rowsToCome(rows.size());
        for (int i = 0; i < rows.size(); i++) if (!Arrays.equals(due.get(i), rows.get(i))) return i + 1;
        return 0;
    }

    int lays(int sheet) {
        if (!in(sheet, 0, 3)) return -1;
        if (sheets[sheet] == null) return -11;
        if (!(sheets[sheet] instanceof int[])) return -13;
        int[] row = (int[]) sheets[sheet];
        int k = 0;
        for (; k < row.length && k < world.ways.size(); k++) world.ways.get(k).stay = row[k] < 0 ? 0 : row[k] > 8 ? 8 : row[k];
        return k;
    }

    // ---- the host

    static int sortOf(Object row) {
        return row instanceof byte[] ? 0 : row instanceof short[] ? 1 : row instanceof int[] ? 2 : 3;
    }

    static int lengthOf(Object row) { return java.lang.reflect.Array.getLength(row); }

    int sheet(int sheet, int sort, int n) {
        if (!in(sheet, 0, 3) || !in(sort, -1, 3)) return -1;
        if (sort == -1) {
            sheets[sheet] = null;
            return 1;
        }
        if (n > 40) return -1;
        if (n < 0) return -14;
        if (sort == 0) sheets[sheet] = new byte[n];
        if (sort == 1) sheets[sheet] = new short[n];
        if (sort == 2) sheets[sheet] = new int[n];
        if (sort == 3) sheets[sheet] = new long[n];
        return 1;
    }

    int write(int sheet, int i, int v) {
        if (!in(sheet, 0, 3)) return -1;
        Object row = sheets[sheet];
        if (row == null) return -11;
        if (!in(i, 0, lengthOf(row) - 1)) return -12;
        if (row instanceof byte[]) ((byte[]) row)[i] = (byte) v;
        if (row instanceof short[]) ((short[]) row)[i] = (short) v;
        if (row instanceof int[]) ((int[]) row)[i] = v;
        if (row instanceof long[]) ((long[]) row)[i] = v;
        return 1;
    }

    int item(int sheet, int sort, int i) {
        if (!in(sheet, 0, 3) || !in(sort, 0, 3)) return -1;
        Object row = sheets[sheet];
        if (row == null) return -11;
        if (sortOf(row) != sort) return -13;
        if (!in(i, 0, lengthOf(row) - 1)) return -12;
        return (int) java.lang.reflect.Array.getLong(row, i);
    }

    int shelf(int shelf, int what, int n) {
        if (!in(shelf, 0, 3) || !in(what, 0, 2)) return -1;
        if (what == 0 && !isPath(n) || what == 1 && !in(n, 0, 3)) return -1;
        shelves[shelf] = what == 0 ? Integer.valueOf(n) : what == 1 ? sheets[n] : null;
        return 1;
    }

    private Object on(int shelf) {
        Object o = shelves[shelf];
        return o instanceof Integer && !isPath((Integer) o) ? null : o;
    }

    int taken(int shelf, int as) {
        if (!in(shelf, 0, 3) || !in(as, 0, 5) && !in(as, 10, 13)) return -1;
        Object o = on(shelf);
        if (o == null) return -11;
        if (o instanceof Integer) {
            for (int k = world.ways.get((Integer) o).kind; k >= 0; k = UNDER[k]) if (k == as) return (Integer) o;
            return -13;
        }
        return as - 10 == sortOf(o) ? lengthOf(o) : -13;
    }

    int act(int shelf, int act, int x) {
        trace.clear();
        if (!in(shelf, 0, 3) || !in(act, 0, 3) || !(on(shelf) instanceof Integer)) return 0;
        int p = (Integer) on(shelf);
        Way w = world.ways.get(p);
        try {
            return run(w.kind, w.kind, act, x, p, w.stay);
        } catch (ArithmeticException parted) {
            return -15;
        }
    }

    /** An act of a thing of a kind, looked for from a kind upwards. */
    private int run(int own, int from, int act, int x, int n, int a) {
        String at = KIND_NAMES[from] + act;
        int up = UNDER[from];
        switch (at) {
            case "path0": mark(10); return x + n;
            case "path1": mark(11); return run(own, own, 0, x, n, a) * 2;
            case "path2": mark(12); return x / (a - n);
            case "path3": mark(13); return run(own, own, 1, x, n, a) ^ a;
            case "track1": mark(20); return run(own, up, 1, x, n, a) - a;
            case "wall0": mark(30); return run(own, up, 0, x, n, a) * 3;
            case "wall3": {
                mark(31);
                int left = run(own, up, 3, x, n, a);
                return left + run(own, own, 2, n, n, a);
            }
            case "deer0": mark(40); return 0 - run(own, up, 0, x, n, a);
            case "deer1": {
                mark(41);
                int left = run(own, up, 1, x, n, a);
                return left + run(own, own, 0, n, n, a);
            }
            case "bog2": mark(50); return run(own, up, 2, x + 2, n, a) ^ 1;
            case "bog0": mark(51); return run(own, up, 0, x, n, a) - n;
            case "ride3": mark(60); return run(own, up, 3, x, n, a) * 2;
            case "ride2": {
                mark(61);
                int left = run(own, up, 2, x, n, a);
                return left + run(own, own, 0, a, n, a);
            }
            default: return run(own, up, act, x, n, a);
        }
    }

    private void mark(int body) { if (trace.size() < 30) trace.add(body); }

    int trace(int i) { return in(i, 0, trace.size() - 1) ? trace.get(i) : -3; }

    int many(int what) {
        int[] all = {world.ways.size(), world.men.size(), world.rules.size(), rows.size(), tape.length(), trace.size()};
        return in(what, 0, 5) ? all[what] : -1;
    }

    // ---- kept

    int keep() {
        kept = world.copy();
        return 1;
    }

    int again() {
        if (kept == null) return -3;
        world = kept.copy();
        return world.ways.size();
    }
}
