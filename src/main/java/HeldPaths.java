import java.util.Arrays;

/** A wood of clearings whose paths stay while they are walked; the document numbers what it promises. */
public final class HeldPaths {
    public static final int BAD = -1, FULL = -2, NONE = -3, STATE = -4;

    private static final int NOTHING = -11, OUTSIDE = -12, OTHER_SORT = -13, BELOW_ZERO = -14, PARTED_BY_ZERO = -15;
    /** What the document answers where there is nothing to tell, but nothing is refused. */
    private static final int NOT_SO = -9;
    private static final int FAULT_BASE = -100;

    private static final int CLEARINGS = 8, MOST_PATHS = 8, MOST_WALKERS = 4, MOST_RULES = 4;
    private static final int PATH_SETS = 1 << MOST_PATHS;
    private static final int MOST_NIGHTS = 20, MOST_ROWS = 12, MOST_HELD = 3, MOST_WITHIN = 2;
    private static final int SHEETS = 4, SHELVES = 4, MOST_ITEMS = 40, MOST_BYTES = 240, MOST_BODIES = 30;
    private static final int EIGHTHS = 8, MOST_PAY = 99, MOST_WEIGHT = 9;

    private static final int PATH = 0, TRACK = 1, WALL = 2, DEER = 3, BOG = 4, RIDE = 5, KINDS = 6;
    private static final int HOLD = 1, BACK = 2, WAIT = 3, RULE_KINDS = 4;
    private static final int BYTES = 0, SHORTS = 1, INTS = 2, SORTS = 4;
    private static final int LEADS = 0, STAYS = 1, SHARES = 2, ACTS = 4;
    /** Where the numbers of sorts begin among those by which taken() asks. */
    private static final int SORTS_FROM = 10;

    private final Wood now = new Wood();
    private final Wood kept = new Wood();
    /** Made once and used again, by each call that tries out what it may not do to the wood itself. */
    private final Wood spare = new Wood();
    private boolean somethingKept;
    private final Tape tape = new Tape();
    private final Chances chances = new Chances();
    private final int[] rowPaths = new int[MOST_ROWS];
    private final int[] rowClearings = new int[MOST_ROWS];
    private int rows;
    private final Strip[] sheets = new Strip[SHEETS];
    private final int[] shelfPath = new int[SHELVES];
    private final Strip[] shelfStrip = new Strip[SHELVES];
    private final Trace trace = new Trace();

    public HeldPaths() {
        Arrays.fill(shelfPath, NOT_SO);
    }

    // ---- the wood

    public int feed(long eight, int n) {
        if (n < 1 || n > 8) {
            return BAD;
        }
        return tape.take(eight, n);
    }

    public int wood() {
        // A copy of the present wood brings along what a new wood leaves as it is: the rules and z.
        spare.copyFrom(now);
        spare.clear();
        int fault = tape.tellTo(spare);
        if (fault >= 0) {
            return FAULT_BASE - fault;
        }
        now.copyFrom(spare);
        rows = 0;
        return now.paths;
    }

    public int path(int kind, int a, int b, int stay, int come) {
        boolean ends = isClearing(a) && isClearing(b) && a != b;
        if (!ends || !isBelow(kind, KINDS) || !isUpTo(stay, EIGHTHS) || !isUpTo(come, EIGHTHS)) {
            return BAD;
        }
        if (now.paths >= MOST_PATHS) {
            return FULL;
        }
        return now.addPath(kind, a, b, stay, come);
    }

    public int pathOf(int path, int what) {
        if (!now.hasPath(path)) {
            return BAD;
        }
        switch (what) {
            case 0: return now.kind[path];
            case 1: return now.first[path];
            case 2: return now.second[path];
            case 3: return now.stay[path];
            case 4: return now.come[path];
            case 5: return now.isThere(path) ? 1 : 0;
            case 6: return now.staysOf(path);
            case 7: return now.comesOf(path);
            case 8: return now.walkersOn(path);
            default: return BAD;
        }
    }

    public int open(int path, boolean is) {
        if (!now.hasPath(path)) {
            return BAD;
        }
        if (now.walkersOn(path) != 0) {
            return STATE;
        }
        boolean isNew = now.isThere(path) != is;
        now.setThere(path, is);
        return isNew ? 1 : 0;
    }

    public int rain(boolean is) {
        boolean isNew = now.raining != is;
        now.raining = is;
        return isNew ? 1 : 0;
    }

    public int weigh(int clearing, int v) {
        if (!isClearing(clearing) || !isUpTo(v, MOST_WEIGHT)) {
            return BAD;
        }
        int was = now.weight[clearing];
        now.weight[clearing] = v;
        return was;
    }

    public int walker(int clearing, int pay) {
        if (!isClearing(clearing) || !isUpTo(pay, MOST_PAY)) {
            return BAD;
        }
        if (now.walkers >= MOST_WALKERS) {
            return FULL;
        }
        return now.addWalker(clearing, pay);
    }

    public int walkerOf(int walker, int what) {
        if (!now.hasWalker(walker)) {
            return BAD;
        }
        switch (what) {
            case 0: return now.place[walker];
            case 1: return now.onPath[walker];
            case 2: return now.pay[walker];
            default: return BAD;
        }
    }

    // ---- days, nights

    public int walk(int walker, int path) {
        if (!now.hasWalker(walker) || !now.hasPath(path)) {
            return BAD;
        }
        if (!now.mayStep(walker, path)) {
            return STATE;
        }
        now.goAlong(walker, path);
        return now.place[walker];
    }

    public int on(int walker, int path) {
        if (!now.hasWalker(walker) || !now.hasPath(path)) {
            return BAD;
        }
        if (!now.mayStep(walker, path)) {
            return STATE;
        }
        now.comeOn(walker, path);
        return Integer.bitCount(now.walkersOn(path));
    }

    public int off(int walker, int clearing) {
        if (!now.hasWalker(walker) || !isClearing(clearing)) {
            return BAD;
        }
        int path = now.onPath[walker];
        if (!now.hasPath(path) || !now.endsAt(path, clearing)) {
            return STATE;
        }
        now.setDown(walker, clearing);
        return 1;
    }

    public int put(int walker, int clearing) {
        if (!now.hasWalker(walker) || !isClearing(clearing)) {
            return BAD;
        }
        int was = now.place[walker];
        now.setDown(walker, clearing);
        return was;
    }

    public int night(int n) {
        if (!isUpTo(n, MOST_NIGHTS)) {
            return BAD;
        }
        for (int i = 0; i < n; i++) {
            now.passNight();
        }
        return now.there;
    }

    public int count(int what) {
        switch (what) {
            case 0: return now.nights;
            case 1: return now.there;
            case 2: return now.pathsWalked();
            case 3: return now.payOf(false);
            case 4: return now.payOf(true);
            default: return BAD;
        }
    }

    public int seed(int v) {
        int was = now.z;
        now.z = v;
        return was;
    }

    // ---- what will be

    public int way(int a, int b) {
        if (!isClearing(a) || !isClearing(b)) {
            return BAD;
        }
        return now.distance(a, b);
    }

    public int reach(int a) {
        if (!isClearing(a)) {
            return BAD;
        }
        return now.reachFrom(a);
    }

    public long odds(int a, int b, int part) {
        if (!isClearing(a) || !isClearing(b) || !isPart(part)) {
            return BAD;
        }
        chances.lookAhead(now);
        return partOf(chances.oddsOf(a, b), chances.whole, part);
    }

    public int held(int a, int b, int n) {
        if (!isClearing(a) || !isClearing(b) || !isUpTo(n, MOST_HELD)) {
            return BAD;
        }
        return chances.bestHeld(now, a, b, n);
    }

    public int keepers(int a, int b, int what) {
        if (!isClearing(a) || !isClearing(b) || !isUpTo(what, 1)) {
            return BAD;
        }
        int fewest = chances.fewestKept(now, a, b);
        if (fewest < 0) {
            return NONE;
        }
        return what == 0 ? Integer.bitCount(fewest) : fewest;
    }

    public int home(int a, int eighths) {
        if (!isClearing(a) || !isUpTo(eighths, EIGHTHS)) {
            return BAD;
        }
        chances.lookAhead(now);
        int homes = 0;
        for (int c = 0; c < CLEARINGS; c++) {
            if (chances.oddsReach(c, a, eighths)) {
                homes |= 1 << c;
            }
        }
        return homes;
    }

    public long within(int a, int b, int n, int part) {
        if (!isClearing(a) || !isClearing(b) || !isUpTo(n, MOST_WITHIN) || !isPart(part)) {
            return BAD;
        }
        long odds = chances.bestWithin(now, a, b, n);
        long whole = 1;
        for (int i = 0; i < n; i++) {
            whole *= chances.whole;
        }
        return partOf(odds, whole, part);
    }

    public int seek(int a) {
        if (!isClearing(a)) {
            return BAD;
        }
        chances.lookAhead(now);
        int reached = now.reachFrom(a);
        int best = NONE;
        long most = 0;
        for (int c = 0; c < CLEARINGS; c++) {
            if (!isInSet(c, reached)) {
                long worth = now.weight[c] * chances.oddsOf(a, c);
                if (worth > most) {
                    most = worth;
                    best = c;
                }
            }
        }
        return best;
    }

    // ---- rules

    public int rule(int kind, int a) {
        if (!isBelow(kind, RULE_KINDS) || !isClearing(a)) {
            return BAD;
        }
        if (now.rules >= MOST_RULES) {
            return FULL;
        }
        return now.addRule(kind, a);
    }

    public int ruleOf(int rule, int what) {
        if (!now.hasRule(rule)) {
            return BAD;
        }
        switch (what) {
            case 0: return now.ruleKind[rule];
            case 1: return now.ruleClearing[rule];
            default: return BAD;
        }
    }

    public int does(int rule, int walker) {
        if (!now.hasRule(rule) || !now.hasWalker(walker)) {
            return BAD;
        }
        int path = stepBy(rule, walker);
        if (!now.hasPath(path)) {
            return 0;
        }
        if (now.ruleKind[rule] == HOLD) {
            now.comeOn(walker, path);
        } else {
            now.goAlong(walker, path);
        }
        return 1;
    }

    public int goes(int rule, int walker) {
        if (!now.hasRule(rule) || !now.hasWalker(walker)) {
            return BAD;
        }
        return stepBy(rule, walker);
    }

    // ---- rows

    public int prove(int n) {
        if (n < 1 || n > MOST_ROWS) {
            return BAD;
        }
        spare.copyFrom(now);
        for (int i = 0; i < n; i++) {
            spare.passNight();
            rowPaths[i] = spare.there;
            rowClearings[i] = spare.nearFirstClearing();
        }
        rows = n;
        return n;
    }

    public int row(int i, int what) {
        if (!isBelow(i, rows) || !isUpTo(what, 1)) {
            return NOT_SO;
        }
        return what == 0 ? rowPaths[i] : rowClearings[i];
    }

    public int alterRow(int i, int what, int v) {
        if (!isBelow(i, rows) || !isUpTo(what, 1)) {
            return NOT_SO;
        }
        int[] column = what == 0 ? rowPaths : rowClearings;
        int was = column[i];
        column[i] = v;
        return was;
    }

    public int judge() {
        spare.copyFrom(now);
        for (int i = 0; i < rows; i++) {
            spare.passNight();
            if (rowPaths[i] != spare.there || rowClearings[i] != spare.nearFirstClearing()) {
                return i + 1;
            }
        }
        return 0;
    }

    public int lays(int sheet) {
        if (!isBelow(sheet, SHEETS)) {
            return BAD;
        }
        Strip strip = sheets[sheet];
        if (strip == null) {
            return NOTHING;
        }
        if (strip.sort != INTS) {
            return OTHER_SORT;
        }
        int both = Math.min(strip.items.length, now.paths);
        for (int k = 0; k < both; k++) {
            now.stay[k] = (int) Math.max(0, Math.min(EIGHTHS, strip.items[k]));
        }
        return both;
    }

    // ---- the host

    public int sheet(int sheet, int sort, int n) {
        boolean missing = sort == -1;
        if (!isBelow(sheet, SHEETS) || !missing && (!isBelow(sort, SORTS) || n > MOST_ITEMS)) {
            return BAD;
        }
        if (!missing && n < 0) {
            return BELOW_ZERO;
        }
        // A new row each time: a shelf may go on holding the one that was here.
        sheets[sheet] = missing ? null : new Strip(sort, n);
        return 1;
    }

    public int write(int sheet, int i, int v) {
        if (!isBelow(sheet, SHEETS)) {
            return BAD;
        }
        Strip strip = sheets[sheet];
        if (strip == null) {
            return NOTHING;
        }
        if (!isBelow(i, strip.items.length)) {
            return OUTSIDE;
        }
        strip.items[i] = strip.narrowed(v);
        return 1;
    }

    public int item(int sheet, int sort, int i) {
        if (!isBelow(sheet, SHEETS) || !isBelow(sort, SORTS)) {
            return BAD;
        }
        Strip strip = sheets[sheet];
        if (strip == null) {
            return NOTHING;
        }
        if (strip.sort != sort) {
            return OTHER_SORT;
        }
        if (!isBelow(i, strip.items.length)) {
            return OUTSIDE;
        }
        return (int) strip.items[i];
    }

    public int shelf(int shelf, int what, int n) {
        if (!isBelow(shelf, SHELVES) || !isUpTo(what, 2)) {
            return BAD;
        }
        if (what == 0 && !now.hasPath(n) || what == 1 && !isBelow(n, SHEETS)) {
            return BAD;
        }
        shelfPath[shelf] = what == 0 ? n : NOT_SO;
        shelfStrip[shelf] = what == 1 ? sheets[n] : null;
        return 1;
    }

    public int taken(int shelf, int as) {
        boolean asKind = isBelow(as, KINDS);
        if (!isBelow(shelf, SHELVES) || !asKind && !isBelow(as - SORTS_FROM, SORTS)) {
            return BAD;
        }
        int path = shelfPath[shelf];
        Strip strip = shelfStrip[shelf];
        if (now.hasPath(path)) {
            return asKind && isOfKind(now.kind[path], as) ? path : OTHER_SORT;
        }
        if (strip == null) {
            return NOTHING;
        }
        return !asKind && strip.sort == as - SORTS_FROM ? strip.items.length : OTHER_SORT;
    }

    public int act(int shelf, int act, int x) {
        trace.clear();
        if (!isBelow(shelf, SHELVES) || !isBelow(act, ACTS) || !now.hasPath(shelfPath[shelf])) {
            return 0;
        }
        PathThing thing = thingOf(shelfPath[shelf]);
        int answer;
        switch (act) {
            case LEADS: answer = thing.leads(x); break;
            case STAYS: answer = thing.stays(x); break;
            case SHARES: answer = thing.shares(x); break;
            default: answer = thing.tells(x); break;
        }
        return trace.parted ? PARTED_BY_ZERO : answer;
    }

    public int trace(int i) {
        return isBelow(i, trace.length) ? trace.bodies[i] : NONE;
    }

    public int many(int what) {
        switch (what) {
            case 0: return now.paths;
            case 1: return now.walkers;
            case 2: return now.rules;
            case 3: return rows;
            case 4: return tape.length;
            case 5: return trace.length;
            default: return BAD;
        }
    }

    // ---- kept

    public int keep() {
        kept.copyFrom(now);
        somethingKept = true;
        return 1;
    }

    public int again() {
        if (!somethingKept) {
            return NONE;
        }
        now.copyFrom(kept);
        return now.paths;
    }

    // ---- what the calls above share

    private static boolean isBelow(int v, int bound) {
        return v >= 0 && v < bound;
    }

    private static boolean isUpTo(int v, int most) {
        return v >= 0 && v <= most;
    }

    private static boolean isClearing(int v) {
        return isBelow(v, CLEARINGS);
    }

    private static boolean isPart(int v) {
        return isBelow(v, 2);
    }

    private static boolean isInSet(int member, int set) {
        return (set >>> member & 1) != 0;
    }

    /** The whole is a power of 2, so halving is all that takes common divisors away. */
    private static long partOf(long above, long whole, int part) {
        long over = above;
        long under = whole;
        for (int i = 0; i < 64 && under > 1 && (over & 1) == 0; i++) {
            over >>= 1;
            under >>= 1;
        }
        return part == 0 ? over : under;
    }

    private static boolean isOfKind(int kind, int as) {
        boolean underTrack = kind == DEER || kind == BOG;
        return as == PATH || as == kind || as == TRACK && underTrack;
    }

    /** Along which path a walker would go by a rule, or NOT_SO if he stays. */
    private int stepBy(int rule, int walker) {
        int from = now.place[walker];
        if (!isClearing(from)) {
            return NOT_SO;
        }
        int kind = now.ruleKind[rule];
        int a = now.ruleClearing[rule];
        if (kind == WAIT && now.distance(from, a) != 1) {
            return NOT_SO;
        }
        int target = kind == BACK ? farthestSafe(from, a) : a;
        return isClearing(target) ? now.firstStep(from, target) : NOT_SO;
    }

    /** Where the rule back sends somebody: as far from a as it is likely that a can be reached again. */
    private int farthestSafe(int from, int a) {
        chances.lookAhead(now);
        int common = now.reachFrom(from) & now.reachFrom(a);
        int best = NOT_SO;
        int farthest = -1;
        for (int c = 0; c < CLEARINGS; c++) {
            if (isInSet(c, common) && chances.oddsReach(c, a, EIGHTHS / 2)) {
                int far = now.distance(c, a);
                if (far > farthest) {
                    farthest = far;
                    best = c;
                }
            }
        }
        return best;
    }

    private PathThing thingOf(int path) {
        int stay = now.stay[path];
        switch (now.kind[path]) {
            case TRACK: return new TrackThing(path, stay, trace);
            case WALL: return new WallThing(path, stay, trace);
            case DEER: return new DeerThing(path, stay, trace);
            case BOG: return new BogThing(path, stay, trace);
            case RIDE: return new RideThing(path, stay, trace);
            default: return new PathThing(path, stay, trace);
        }
    }

    /** All that keep() keeps: paths, walkers, rules, rain, weights, the night and z. */
    private static final class Wood {
        final int[] kind = new int[MOST_PATHS];
        final int[] first = new int[MOST_PATHS];
        final int[] second = new int[MOST_PATHS];
        final int[] stay = new int[MOST_PATHS];
        final int[] come = new int[MOST_PATHS];
        int paths;
        /** Which paths are there, as a set. */
        int there;
        /** A walker's clearing, or NOT_SO. */
        final int[] place = new int[MOST_WALKERS];
        /** A walker's path, or NOT_SO; a path that somebody is on is there. */
        final int[] onPath = new int[MOST_WALKERS];
        final int[] pay = new int[MOST_WALKERS];
        int walkers;
        final int[] weight = new int[CLEARINGS];
        boolean raining;
        int nights;
        int z = 1;
        final int[] ruleKind = new int[MOST_RULES];
        final int[] ruleClearing = new int[MOST_RULES];
        int rules;

        Wood() {
            Arrays.fill(weight, 1);
        }

        void copyFrom(Wood other) {
            System.arraycopy(other.kind, 0, kind, 0, MOST_PATHS);
            System.arraycopy(other.first, 0, first, 0, MOST_PATHS);
            System.arraycopy(other.second, 0, second, 0, MOST_PATHS);
            System.arraycopy(other.stay, 0, stay, 0, MOST_PATHS);
            System.arraycopy(other.come, 0, come, 0, MOST_PATHS);
            paths = other.paths;
            there = other.there;
            System.arraycopy(other.place, 0, place, 0, MOST_WALKERS);
            System.arraycopy(other.onPath, 0, onPath, 0, MOST_WALKERS);
            System.arraycopy(other.pay, 0, pay, 0, MOST_WALKERS);
            walkers = other.walkers;
            System.arraycopy(other.weight, 0, weight, 0, CLEARINGS);
            raining = other.raining;
            nights = other.nights;
            z = other.z;
            System.arraycopy(other.ruleKind, 0, ruleKind, 0, MOST_RULES);
            System.arraycopy(other.ruleClearing, 0, ruleClearing, 0, MOST_RULES);
            rules = other.rules;
        }

        /** What a text tells anew; it says nothing of rules and z. */
        void clear() {
            paths = 0;
            there = 0;
            walkers = 0;
            raining = false;
            nights = 0;
            Arrays.fill(weight, 1);
        }

        boolean hasPath(int p) {
            return isBelow(p, paths);
        }

        boolean hasWalker(int w) {
            return isBelow(w, walkers);
        }

        boolean hasRule(int r) {
            return isBelow(r, rules);
        }

        /** The caller has seen that there is room. */
        int addPath(int ofKind, int a, int b, int stays, int comes) {
            int p = paths;
            kind[p] = ofKind;
            first[p] = a;
            second[p] = b;
            stay[p] = stays;
            come[p] = comes;
            paths++;
            setThere(p, true);
            return p;
        }

        /** The caller has seen that there is room. */
        int addWalker(int clearing, int pays) {
            int w = walkers;
            pay[w] = pays;
            setDown(w, clearing);
            walkers++;
            return w;
        }

        /** The caller has seen that there is room. */
        int addRule(int ofKind, int clearing) {
            int r = rules;
            ruleKind[r] = ofKind;
            ruleClearing[r] = clearing;
            rules++;
            return r;
        }

        boolean isThere(int p) {
            return isInSet(p, there);
        }

        void setThere(int p, boolean is) {
            there = is ? there | 1 << p : there & ~(1 << p);
        }

        boolean endsAt(int p, int clearing) {
            return first[p] == clearing || second[p] == clearing;
        }

        int otherEnd(int p, int clearing) {
            return first[p] == clearing ? second[p] : first[p];
        }

        int walkersOn(int p) {
            int set = 0;
            for (int w = 0; w < walkers; w++) {
                if (onPath[w] == p) {
                    set |= 1 << w;
                }
            }
            return set;
        }

        int pathsWalked() {
            int set = 0;
            for (int w = 0; w < walkers; w++) {
                if (hasPath(onPath[w])) {
                    set |= 1 << onPath[w];
                }
            }
            return set;
        }

        int payOf(boolean onlyOnPaths) {
            int sum = 0;
            for (int w = 0; w < walkers; w++) {
                if (!onlyOnPaths || hasPath(onPath[w])) {
                    sum += pay[w];
                }
            }
            return sum;
        }

        /** Who is on a path is in no clearing, so no path ends where he is. */
        boolean mayStep(int w, int p) {
            return isThere(p) && endsAt(p, place[w]);
        }

        void goAlong(int w, int p) {
            setDown(w, otherEnd(p, place[w]));
        }

        void comeOn(int w, int p) {
            place[w] = NOT_SO;
            onPath[w] = p;
        }

        void setDown(int w, int clearing) {
            place[w] = clearing;
            onPath[w] = NOT_SO;
        }

        boolean someoneAtEnd(int p) {
            for (int w = 0; w < walkers; w++) {
                if (place[w] == first[p] || place[w] == second[p]) {
                    return true;
                }
            }
            return false;
        }

        int staysOf(int p) {
            int asTrack = Math.min(EIGHTHS, stay[p] + 2);
            switch (kind[p]) {
                case TRACK: return asTrack;
                case WALL: return EIGHTHS;
                case DEER: return asTrack / 2;
                case BOG: return raining ? Math.max(0, asTrack - 3) : asTrack;
                case RIDE: return someoneAtEnd(p) ? EIGHTHS : stay[p];
                default: return stay[p];
            }
        }

        int comesOf(int p) {
            switch (kind[p]) {
                case WALL: return 0;
                case DEER: return Math.min(EIGHTHS, come[p] + 2);
                case BOG: return raining ? 0 : come[p];
                default: return come[p];
            }
        }

        /** Of 8, how likely a path is there behind a night, if it was (or was not) there before. */
        int chanceOf(int p, boolean wasThere) {
            if (walkersOn(p) != 0) {
                return EIGHTHS;
            }
            return wasThere ? staysOf(p) : comesOf(p);
        }

        void passNight() {
            for (int p = 0; p < paths; p++) {
                if (walkersOn(p) == 0) {
                    z = z * 1103515245 + 12345;
                    int draw = (z >>> 16) % EIGHTHS;
                    setThere(p, draw < chanceOf(p, isThere(p)));
                }
            }
            nights++;
        }

        /** A set of clearings and those one path away. */
        int grown(int set) {
            int wider = set;
            for (int p = 0; p < paths; p++) {
                int ends = 1 << first[p] | 1 << second[p];
                if (isThere(p) && (set & ends) != 0) {
                    wider |= ends;
                }
            }
            return wider;
        }

        int reachFrom(int clearing) {
            int set = 1 << clearing;
            for (int i = 1; i < CLEARINGS; i++) {
                set = grown(set);
            }
            return set;
        }

        int nearFirstClearing() {
            return Integer.bitCount(reachFrom(0));
        }

        int distance(int a, int b) {
            int set = 1 << a;
            for (int d = 0; d < CLEARINGS; d++) {
                if (isInSet(b, set)) {
                    return d;
                }
                set = grown(set);
            }
            return NONE;
        }

        /** The first path of a shortest way, or NOT_SO if there is no way or none is needed. */
        int firstStep(int from, int to) {
            int far = distance(from, to);
            for (int p = 0; p < paths && far > 0; p++) {
                if (isThere(p) && endsAt(p, from) && distance(otherEnd(p, from), to) == far - 1) {
                    return p;
                }
            }
            return NOT_SO;
        }
    }

    /**
     * What may be behind nights. Chances are whole numbers: of one night, out of 8 for each path, so 2 to the 24th
     * at most; of two nights 2 to the 48th.
     */
    private static final class Chances {
        /** Each clearing reaches itself alone; 8 bits a clearing. */
        private static final long ALL_APART = 0x8040201008040201L;

        /** By each set of paths the clearings that each clearing reaches by them, 8 bits a clearing. */
        final long[] joined = new long[PATH_SETS];
        /** By each set of paths how likely it is the one that is there behind the next night. */
        final long[] chance = new long[PATH_SETS];
        /** By a clearing and a set of paths how likely one comes where one would. */
        final long[] value = new long[CLEARINGS * PATH_SETS];
        int sets;
        /** The number of which the chances of one night are parts. */
        long whole;

        void joinAll(Wood wood) {
            sets = 1 << wood.paths;
            whole = 1L << 3 * wood.paths;
            joined[0] = ALL_APART;
            for (int p = 0; p < wood.paths; p++) {
                int bit = 1 << p;
                for (int s = 0; s < bit; s++) {
                    joined[s | bit] = joinedToo(joined[s], wood.first[p], wood.second[p]);
                }
            }
        }

        private static long joinedToo(long reaches, int a, int b) {
            long both = (reaches >>> 8 * a | reaches >>> 8 * b) & 255;
            long result = reaches;
            for (int c = 0; c < CLEARINGS; c++) {
                if ((both >>> c & 1) != 0) {
                    result |= both << 8 * c;
                }
            }
            return result;
        }

        boolean joins(int set, int a, int b) {
            return (joined[set] >>> 8 * a + b & 1) != 0;
        }

        void lookAhead(Wood wood) {
            joinAll(wood);
            chance[0] = 1;
            for (int p = 0; p < wood.paths; p++) {
                int bit = 1 << p;
                int is = wood.chanceOf(p, wood.isThere(p));
                for (int s = 0; s < bit; s++) {
                    chance[s | bit] = chance[s] * is;
                    chance[s] *= EIGHTHS - is;
                }
            }
        }

        /** The caller has looked ahead. */
        long oddsOf(int a, int b) {
            long sum = 0;
            for (int s = 0; s < sets; s++) {
                if (joins(s, a, b)) {
                    sum += chance[s];
                }
            }
            return sum;
        }

        /** The caller has looked ahead. */
        boolean oddsReach(int a, int b, int eighths) {
            return oddsOf(a, b) * EIGHTHS >= eighths * whole;
        }

        /**
         * One path's part of a night, for all sets at once: from values by sets behind it to those by sets before
         * it, if the path is there behind it with chance ifGone where the set before lacks it, ifThere where not.
         */
        private void mix(int from, int p, int ifGone, int ifThere) {
            int bit = 1 << p;
            for (int s = 0; s < sets; s++) {
                if ((s & bit) == 0) {
                    long without = value[from + s];
                    long with = value[from + (s | bit)];
                    value[from + s] = (EIGHTHS - ifGone) * without + ifGone * with;
                    value[from + (s | bit)] = (EIGHTHS - ifThere) * without + ifThere * with;
                }
            }
        }

        private void valueWhereJoined(int from, int a, int b) {
            for (int s = 0; s < sets; s++) {
                value[from + s] = joins(s, a, b) ? 1 : 0;
            }
        }

        int bestHeld(Wood wood, int a, int b, int n) {
            joinAll(wood);
            valueWhereJoined(0, a, b);
            // Here a set "before the night" is one of paths that are held, which are there behind it for sure.
            for (int p = 0; p < wood.paths; p++) {
                mix(0, p, wood.chanceOf(p, wood.isThere(p)), EIGHTHS);
            }
            int best = 0;
            for (int s = 1; s < sets; s++) {
                boolean may = (s & ~wood.there) == 0 && Integer.bitCount(s) <= n;
                if (may && isBetterHeld(s, best)) {
                    best = s;
                }
            }
            return best;
        }

        /** Sets are tried from the least on, so among equals the earlier one stays. */
        private boolean isBetterHeld(int set, int best) {
            if (value[set] != value[best]) {
                return value[set] > value[best];
            }
            return Integer.bitCount(set) < Integer.bitCount(best);
        }

        /** The fewest paths to keep, the least set of as many; NOT_SO if none would do. */
        int fewestKept(Wood wood, int a, int b) {
            joinAll(wood);
            int sure = surePaths(wood);
            int best = NOT_SO;
            int fewest = MOST_PATHS + 1;
            for (int s = 0; s < sets; s++) {
                int size = Integer.bitCount(s);
                if ((s & ~wood.there) == 0 && size < fewest && joins(s | sure, a, b)) {
                    best = s;
                    fewest = size;
                }
            }
            return best;
        }

        private static int surePaths(Wood wood) {
            int sure = 0;
            for (int p = 0; p < wood.paths; p++) {
                if (wood.isThere(p) && wood.chanceOf(p, true) == EIGHTHS) {
                    sure |= 1 << p;
                }
            }
            return sure;
        }

        long bestWithin(Wood wood, int a, int b, int n) {
            lookAhead(wood);
            if (n == 0) {
                return joins(wood.there, a, b) ? 1 : 0;
            }
            for (int c = 0; c < CLEARINGS; c++) {
                valueWhereJoined(c * PATH_SETS, c, b);
            }
            for (int i = 1; i < n; i++) {
                waitOneNight(wood);
                goWhereBest();
            }
            return bestWait(wood.there, a);
        }

        /** The next night is from one set of paths alone: no need to know the values of the others. */
        private long bestWait(int there, int from) {
            long best = 0;
            for (int c = 0; c < CLEARINGS; c++) {
                if (joins(there, from, c)) {
                    best = Math.max(best, valueOfWaiting(c));
                }
            }
            return best;
        }

        private long valueOfWaiting(int clearing) {
            long sum = 0;
            for (int s = 0; s < sets; s++) {
                sum += chance[s] * value[clearing * PATH_SETS + s];
            }
            return sum;
        }

        private void waitOneNight(Wood wood) {
            for (int p = 0; p < wood.paths; p++) {
                int ifGone = wood.chanceOf(p, false);
                int ifThere = wood.chanceOf(p, true);
                for (int c = 0; c < CLEARINGS; c++) {
                    mix(c * PATH_SETS, p, ifGone, ifThere);
                }
            }
        }

        private void goWhereBest() {
            for (int s = 0; s < sets; s++) {
                for (int c = 0; c < CLEARINGS; c++) {
                    value[c * PATH_SETS + s] = bestReached(s, c);
                }
            }
        }

        /** Clearings that reach one another share one best, which the least of them has got first. */
        private long bestReached(int set, int from) {
            long best = 0;
            for (int c = 0; c < CLEARINGS; c++) {
                if (joins(set, from, c)) {
                    best = Math.max(best, value[c * PATH_SETS + set]);
                    if (c < from) {
                        return best;
                    }
                }
            }
            return best;
        }
    }

    /** Takes bytes and reads them as the text of a wood. */
    private static final class Tape {
        private static final int END = 0, NAME = 1, NUMBER = 2, OTHER = 3;

        final byte[] bytes = new byte[MOST_BYTES];
        int length;
        /** The word that is looked at: its sort, where it begins, and where the next byte is. */
        private int sort;
        private int start;
        private int past;
        /** The number read latest. */
        private int number;
        /** The place of the first fault, or below 0. */
        private int fault;

        int take(long eight, int n) {
            if (length + n > MOST_BYTES) {
                return FULL;
            }
            for (int i = 0; i < n; i++) {
                bytes[length] = (byte) (eight >>> 8 * i);
                length++;
            }
            return length;
        }

        /** Tells all that is on the tape to an empty wood, and uses the tape up: the fault, or below 0. */
        int tellTo(Wood wood) {
            past = 0;
            fault = NOT_SO;
            step();
            // Each thing told takes a byte at least.
            for (int i = 0; i < MOST_BYTES && fault < 0 && sort != END; i++) {
                tellThing(wood);
            }
            length = 0;
            return fault;
        }

        private void tellThing(Wood wood) {
            int kind = kindTold();
            if (kind >= 0 && wood.paths < MOST_PATHS) {
                step();
                tellPath(wood, kind);
            } else if (isWord("walker") && wood.walkers < MOST_WALKERS) {
                step();
                tellWalker(wood);
            } else if (takesWordIfThere("rain")) {
                wood.raining = true;
            } else if (takesWordIfThere("weight")) {
                tellWeight(wood);
            } else {
                fault = start;
            }
            takesEnd();
        }

        private int kindTold() {
            if (isWord("path")) {
                return PATH;
            }
            if (isWord("track")) {
                return TRACK;
            }
            if (isWord("wall")) {
                return WALL;
            }
            if (isWord("deer")) {
                return DEER;
            }
            if (isWord("bog")) {
                return BOG;
            }
            return isWord("ride") ? RIDE : NOT_SO;
        }

        private void tellPath(Wood wood, int kind) {
            int a = takesNumber(CLEARINGS - 1, NOT_SO);
            int b = takesNumber(CLEARINGS - 1, a);
            takesWord("stay");
            int stay = takesNumber(EIGHTHS, NOT_SO);
            takesWord("come");
            int come = takesNumber(EIGHTHS, NOT_SO);
            if (fault < 0) {
                int path = wood.addPath(kind, a, b, stay, come);
                wood.setThere(path, !takesWordIfThere("gone"));
            }
        }

        private void tellWalker(Wood wood) {
            int clearing = takesNumber(CLEARINGS - 1, NOT_SO);
            int pay = takesWordIfThere("pay") ? takesNumber(MOST_PAY, NOT_SO) : 0;
            if (fault < 0) {
                wood.addWalker(clearing, pay);
            }
        }

        private void tellWeight(Wood wood) {
            int clearing = takesNumber(CLEARINGS - 1, NOT_SO);
            int weight = takesNumber(MOST_WEIGHT, NOT_SO);
            if (fault < 0) {
                wood.weight[clearing] = weight;
            }
        }

        /** Once there is a fault, nothing more is taken: the first one counts. */
        private boolean takesWordIfThere(String word) {
            if (fault >= 0 || !isWord(word)) {
                return false;
            }
            step();
            return true;
        }

        private void takesWord(String word) {
            if (fault >= 0) {
                return;
            }
            if (!isWord(word)) {
                fault = start;
                return;
            }
            step();
        }

        private int takesNumber(int most, int unlike) {
            if (fault >= 0) {
                return 0;
            }
            if (sort != NUMBER || past - start > 2 || number > most || number == unlike) {
                fault = start;
                return 0;
            }
            int told = number;
            step();
            return told;
        }

        private void takesEnd() {
            if (fault >= 0) {
                return;
            }
            if (sort != OTHER || byteAt(start) != ';') {
                fault = start;
                return;
            }
            step();
        }

        private boolean isWord(String word) {
            if (sort != NAME || past - start != word.length()) {
                return false;
            }
            for (int i = 0; i < word.length(); i++) {
                if (byteAt(start + i) != word.charAt(i)) {
                    return false;
                }
            }
            return true;
        }

        /** Looks at the next name, number, other byte, or the end. */
        private void step() {
            start = past;
            for (int i = 0; i < MOST_BYTES && byteAt(start) == ' '; i++) {
                start++;
            }
            sort = sortOf(byteAt(start));
            past = sort == END ? start : start + 1;
            if (sort == NAME || sort == NUMBER) {
                for (int i = 0; i < MOST_BYTES && sortOf(byteAt(past)) == sort; i++) {
                    past++;
                }
            }
            if (sort == NUMBER) {
                number = byteAt(start) - '0';
                if (past - start == 2) {
                    number = number * 10 + byteAt(start + 1) - '0';
                }
            }
        }

        private static int sortOf(int b) {
            if (b < 0) {
                return END;
            }
            if (b >= 'a' && b <= 'z') {
                return NAME;
            }
            return b >= '0' && b <= '9' ? NUMBER : OTHER;
        }

        /** Below 0 behind the end. */
        private int byteAt(int i) {
            return i >= 0 && i < length ? bytes[i] & 255 : NOT_SO;
        }
    }

    /** A sheet's row; what it holds is narrowed to its sort as it is written. */
    private static final class Strip {
        final int sort;
        final long[] items;

        /** The caller has looked at n. */
        Strip(int sort, int n) {
            this.sort = sort;
            this.items = new long[n];
        }

        long narrowed(int v) {
            switch (sort) {
                case BYTES: return (byte) v;
                case SHORTS: return (short) v;
                default: return v;
            }
        }
    }

    /** Which bodies began in the latest act. */
    private static final class Trace {
        final int[] bodies = new int[MOST_BODIES];
        int length;
        /** Something was to be parted by 0: nothing begins any more. */
        boolean parted;

        void clear() {
            length = 0;
            parted = false;
        }

        void begin(int body) {
            if (!parted && length < MOST_BODIES) {
                bodies[length] = body;
                length++;
            }
        }
    }

    /** A path as the host holds it; the classes under it are the kinds under a path. */
    private static class PathThing {
        final int n;
        final int a;
        final Trace trace;

        PathThing(int n, int a, Trace trace) {
            this.n = n;
            this.a = a;
            this.trace = trace;
        }

        int leads(int x) {
            trace.begin(10);
            return x + n;
        }

        int stays(int x) {
            trace.begin(11);
            return leads(x) * 2;
        }

        int shares(int x) {
            trace.begin(12);
            int by = a - n;
            if (by == 0) {
                trace.parted = true;
                return 0;
            }
            return x / by;
        }

        int tells(int x) {
            trace.begin(13);
            return stays(x) ^ a;
        }
    }

    private static class TrackThing extends PathThing {
        TrackThing(int n, int a, Trace trace) {
            super(n, a, trace);
        }

        int stays(int x) {
            trace.begin(20);
            return super.stays(x) - a;
        }
    }

    private static final class WallThing extends PathThing {
        WallThing(int n, int a, Trace trace) {
            super(n, a, trace);
        }

        int leads(int x) {
            trace.begin(30);
            return super.leads(x) * 3;
        }

        int tells(int x) {
            trace.begin(31);
            return super.tells(x) + shares(n);
        }
    }

    private static final class DeerThing extends TrackThing {
        DeerThing(int n, int a, Trace trace) {
            super(n, a, trace);
        }

        int leads(int x) {
            trace.begin(40);
            return 0 - super.leads(x);
        }

        int stays(int x) {
            trace.begin(41);
            return super.stays(x) + leads(n);
        }
    }

    private static final class BogThing extends TrackThing {
        BogThing(int n, int a, Trace trace) {
            super(n, a, trace);
        }

        int shares(int x) {
            trace.begin(50);
            return super.shares(x + 2) ^ 1;
        }

        int leads(int x) {
            trace.begin(51);
            return super.leads(x) - n;
        }
    }

    private static final class RideThing extends PathThing {
        RideThing(int n, int a, Trace trace) {
            super(n, a, trace);
        }

        int tells(int x) {
            trace.begin(60);
            return super.tells(x) * 2;
        }

        int shares(int x) {
            trace.begin(61);
            return super.shares(x) + leads(a);
        }
    }
}
