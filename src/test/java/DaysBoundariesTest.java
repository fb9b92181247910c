/** Promises 11 to 17, days and nights: each sentence that names a boundary, at it and on both of its sides. */
public final class DaysBoundariesTest {
    private static final int LOW = Due.LOW, HIGH = Due.HIGH, BAD = Due.BAD, STATE = Due.STATE;
    private static final int TIMES = 1103515245, MORE = 12345;

    private static void due(String call, long got, long want) { Due.due(call, got, want); }

    public static void main(String[] args) {
        walking();
        notWalking();
        comingOn();
        notComingOn();
        goingOff();
        notGoingOff();
        putting();
        nightsByNumber();
        draws();
        drawsByNumbers();
        nobodyOnThem();
        nightsByKinds();
        counts();
        seeds();
        Due.end();
    }

    /** Four walkers in 0, from where paths 0 and 2 lead to 1, path 1 to 7; path 3 is from 3 to 4. */
    private static HeldPaths crossing() {
        HeldPaths x = new HeldPaths();
        x.path(0, 0, 1, 8, 0);
        x.path(0, 7, 0, 8, 0);
        x.path(0, 1, 0, 8, 0);
        x.path(0, 3, 4, 8, 0);
        for (int w = 0; w < 4; w++) {
            x.walker(0, 10 + w);
        }
        Due.feed(x, "rain;");
        x.keep();
        return x;
    }

    /** The same, walkers 0 and 1 ON path 1. */
    private static HeldPaths held() {
        HeldPaths x = crossing();
        x.on(0, 1);
        x.on(1, 1);
        return x;
    }

    /** The same as crossing, path 1 is not there. */
    private static HeldPaths closed() {
        HeldPaths x = crossing();
        x.open(1, false);
        return x;
    }

    private static void walking() {
        Due.about("11: BAD: there is no such WALKER, PATH");
        Due.range("walk(walker, 1)", DaysBoundariesTest::crossing, (x, v) -> x.walk(v, 1), 0, 7, 3, 7);
        Due.range("walk(0, path)", DaysBoundariesTest::crossing, (x, v) -> x.walk(0, v), 0, 1, 3, STATE);
        Due.refused("walk(0, 0)", HeldPaths::new, x -> x.walk(0, 0), BAD);
        Due.refused("walk(0, 0), no path", () -> walkerAlone(), x -> x.walk(0, 0), BAD);
        Due.refused("walk(0, 0), no walker", () -> Due.side(1, 8, 0), x -> x.walk(0, 0), BAD);
        Due.about("11: from one end to the other: the CLEARING then");
        HeldPaths x = crossing();
        for (int i = 0; i < 2; i++) {
            due("from the end told last", x.walk(0, 1), 7);
            due("in 7", x.walkerOf(0, 0), 7);
            due("from the end told first", x.walk(0, 1), 0);
            due("in 0", x.walkerOf(0, 0), 0);
        }
        due("out by one", x.walk(0, 0), 1);
        due("home by another", x.walk(0, 2), 0);
        due("others stay where they are", x.walkerOf(1, 0), 0);
    }

    private static HeldPaths walkerAlone() {
        HeldPaths x = new HeldPaths();
        x.walker(0, 0);
        return x;
    }

    private static void notWalking() {
        Due.about("11: STATE: it isn't there, or he isn't at an end of it");
        Due.refused("it isn't there", DaysBoundariesTest::closed, x -> x.walk(0, 1), STATE);
        Due.refused("he isn't at an end", DaysBoundariesTest::crossing, x -> x.walk(0, 3), STATE);
        Due.refused("he is ON it", DaysBoundariesTest::held, x -> x.walk(0, 1), STATE);
        Due.refused("he is ON another", DaysBoundariesTest::held, x -> x.walk(0, 0), STATE);
        due("who isn't ON it may go along it", held().walk(2, 1), 7);
        HeldPaths x = closed();
        x.open(1, true);
        due("it is there again", x.walk(0, 1), 7);
        x = held();
        x.off(0, 7);
        due("he is OFF it", x.walk(0, 1), 0);
        Due.about("11: of several the first named: BAD, then STATE");
        Due.outside("walk(walker, 1), it isn't there", DaysBoundariesTest::closed, (y, v) -> y.walk(v, 1), 0, 3, BAD);
        Due.outside("walk(0, path), ON another", DaysBoundariesTest::held, (y, v) -> y.walk(0, v), 0, 3, BAD);
    }

    private static void comingOn() {
        Due.about("12: BAD: there is no such WALKER, PATH");
        Due.range("on(walker, 1)", DaysBoundariesTest::crossing, (x, v) -> x.on(v, 1), 0, 1, 3, 1);
        Due.range("on(0, path)", DaysBoundariesTest::crossing, (x, v) -> x.on(0, v), 0, 1, 3, STATE);
        Due.refused("on(0, 0)", HeldPaths::new, x -> x.on(0, 0), BAD);
        Due.refused("on(0, 0), no path", () -> walkerAlone(), x -> x.on(0, 0), BAD);
        Due.refused("on(0, 0), no walker", () -> Due.side(1, 8, 0), x -> x.on(0, 0), BAD);
        Due.about("12: how many are");
        HeldPaths x = crossing();
        for (int w = 0; w < 4; w++) {
            due("on(" + w + ", 2)", x.on(w, 2), w + 1);
            due("walkerOf(" + w + ", 1)", x.walkerOf(w, 1), 2);
        }
        x.off(0, 1);
        due("ON another one", x.on(0, 0), 1);
        x.off(1, 0);
        due("back ON it, with two", x.on(1, 2), 3);
    }

    private static void notComingOn() {
        Due.about("12: STATE: it isn't there, or he isn't at an end of it");
        Due.refused("it isn't there", DaysBoundariesTest::closed, x -> x.on(0, 1), STATE);
        Due.refused("he isn't at an end", DaysBoundariesTest::crossing, x -> x.on(0, 3), STATE);
        Due.refused("he is ON it", DaysBoundariesTest::held, x -> x.on(0, 1), STATE);
        Due.refused("he is ON another", DaysBoundariesTest::held, x -> x.on(0, 0), STATE);
        HeldPaths x = crossing();
        x.put(0, 7);
        due("from the end told first", x.on(0, 1), 1);
        due("from the end told last", x.on(1, 1), 2);
        Due.about("12: of several the first named: BAD, then STATE");
        Due.outside("on(walker, 1), it isn't there", DaysBoundariesTest::closed, (y, v) -> y.on(v, 1), 0, 3, BAD);
        Due.outside("on(0, path), ON another", DaysBoundariesTest::held, (y, v) -> y.on(0, v), 0, 3, BAD);
    }

    private static void goingOff() {
        Due.about("13: BAD: there is no such WALKER, CLEARING");
        Due.range("off(0, clearing)", DaysBoundariesTest::held, (x, v) -> x.off(0, v), 0, 1, 7, 1);
        Due.range("off(walker, 7)", DaysBoundariesTest::held, (x, v) -> x.off(v, 7), 0, 1, 3, STATE);
        Due.refused("off(0, 0)", HeldPaths::new, x -> x.off(0, 0), BAD);
        Due.about("13: comes to a CLEARING at an end of it: 1");
        HeldPaths x = held();
        due("off(0, 7)", x.off(0, 7), 1);
        due("in 7", x.walkerOf(0, 0), 7);
        due("ON none", x.walkerOf(0, 1), -9);
        due("off(1, 0)", x.off(1, 0), 1);
        due("in 0", x.walkerOf(1, 0), 0);
        due("the PATH stays there", x.pathOf(1, 5), 1);
    }

    private static void notGoingOff() {
        Due.about("13: STATE: he isn't ON one, or it isn't at its end");
        for (int i = 1; i < 7; i++) {
            int c = i;
            Due.refused("off(0, " + c + ")", DaysBoundariesTest::held, x -> x.off(0, c), STATE);
        }
        for (int i = 0; i < 8; i++) {
            int c = i;
            Due.refused("off(2, " + c + "), in 0", DaysBoundariesTest::held, x -> x.off(2, c), STATE);
        }
        HeldPaths x = held();
        x.off(0, 7);
        due("he has come off already", x.off(0, 7), STATE);
        Due.about("13: of several the first named: BAD, then STATE");
        Due.outside("off(2, clearing), ON none", DaysBoundariesTest::held, (y, v) -> y.off(2, v), 0, 7, BAD);
        Due.outside("off(walker, 3), not at its end", DaysBoundariesTest::held, (y, v) -> y.off(v, 3), 0, 3, BAD);
    }

    private static void putting() {
        Due.about("14: BAD: there is no such WALKER, CLEARING");
        Due.range("put(0, clearing)", Due::taped, (x, v) -> x.put(0, v), 0, 0, 7, 0);
        Due.range("put(walker, 3)", Due::taped, (x, v) -> x.put(v, 3), 0, 0, 2, 7);
        Due.refused("put(0, 0)", HeldPaths::new, x -> x.put(0, 0), BAD);
        Due.about("14: where he was (-9: ON a PATH)");
        HeldPaths x = held();
        due("put(0, 5)", x.put(0, 5), -9);
        due("put(0, 5), once more", x.put(0, 5), 5);
        due("put(0, 0)", x.put(0, 0), 5);
        due("the other is ON it still", x.pathOf(1, 8), 2);
        due("put(1, 7), where it ends", x.put(1, 7), -9);
        due("nobody is ON it", x.pathOf(1, 8), 0);
        due("in 7", x.walkerOf(1, 0), 7);
    }

    private static void nightsByNumber() {
        Due.about("15: n NIGHTS (0 to 20)");
        Due.Made walls = () -> {
            HeldPaths x = crossing();
            Due.told(x, "wall 0 1 stay 0 come 0;path 0 1 stay 0 come 0 gone;wall 0 1 stay 0 come 0;");
            Due.feed(x, "rain;");
            return x;
        };
        Due.range("night(n)", walls, (x, v) -> x.night(v), 0, 5, 20, 5);
        Due.outside("night(n)", Due::taped, (x, v) -> x.night(v), 0, 20, BAD);
        Due.about("15: the NIGHT is 1 more");
        HeldPaths x = new HeldPaths();
        for (int n = 0, sum = 0; n <= 20; n++, sum += n) {
            due("before night(" + n + ")", x.count(0), sum - n);
            due("night(" + n + ")", x.night(n), 0);
            due("behind it", x.count(0), sum);
        }
        Due.about("15: n NIGHTS are as one n times");
        HeldPaths one = Due.taped();
        HeldPaths all = Due.taped();
        for (int i = 0; i < 20; i++) {
            one.night(1);
        }
        due("night(20)", all.night(20), one.night(0));
        Due.same("20 nights", Due.all(all), Due.all(one));
    }

    /** TIMES has an inverse among the ints, as it is odd: each pass of Newton's rule doubles the bits that are right. */
    private static int seedFor(int z) {
        int inverse = TIMES;
        for (int i = 0; i < 5; i++) {
            inverse *= 2 - TIMES * inverse;
        }
        return (z - MORE) * inverse;
    }

    private static void draws() {
        Due.about("15: it stays if (z >>> 16) % 8 is below STAYS; else it comes if that is below COMES");
        for (int draw = 0; draw < 8; draw++) {
            for (int high : new int[] {0, 0x7ff8, 0x8000, 0xfff8}) {
                int z = (high + draw) << 16 | (draw % 2 == 0 ? 0xffff : 0);
                for (int chance = 0; chance <= 8; chance++) {
                    HeldPaths x = Due.side(1, chance, 8 - chance);
                    x.seed(seedFor(z));
                    due("drawn " + draw + ", STAYS " + chance, x.night(1), draw < chance ? 1 : 0);
                    due("z", x.seed(0), z);
                    x = Due.side(1, 8 - chance, chance);
                    x.open(0, false);
                    x.seed(seedFor(z));
                    due("drawn " + draw + ", COMES " + chance, x.night(1), draw < chance ? 1 : 0);
                    due("z", x.seed(0), z);
                }
            }
        }
    }

    private static void drawsByNumbers() {
        Due.about("15: each PATH by numbers: z becomes z * 1103515245 + 12345");
        for (int first = 0; first < 8; first++) {
            int z = first << 16;
            int next = z * TIMES + MORE;
            int second = next >>> 16 & 7;
            HeldPaths x = new HeldPaths();
            x.path(0, 0, 1, first, 0);
            x.path(0, 0, 1, second + 1, 0);
            x.seed(seedFor(z));
            due("drawn " + first + ", " + second, x.night(1), 2);
            due("z", x.seed(0), next);
            x = new HeldPaths();
            x.path(0, 0, 1, first + 1, 0);
            x.path(0, 0, 1, second, 0);
            x.seed(seedFor(z));
            due("drawn " + first + ", " + second, x.night(1), 1);
        }
        Due.about("15: an int, which wraps");
        HeldPaths x = Due.side(1, 8, 8);
        x.seed(HIGH);
        x.night(1);
        due("z from the highest int", x.seed(LOW), HIGH * TIMES + MORE);
        x.night(1);
        due("z from the lowest int", x.seed(-1), LOW * TIMES + MORE);
        x.night(1);
        due("z from -1", x.seed(0), MORE - TIMES);
    }

    private static void nobodyOnThem() {
        Due.about("15: Those on which one is stay; they draw nothing");
        HeldPaths x = Due.side(3, 0, 0);
        x.walker(1, 0);
        x.on(0, 1);
        due("night(1)", x.night(1), 2);
        int z = (1 * TIMES + MORE) * TIMES + MORE;
        due("two have drawn", x.seed(1), z);
        due("night(20)", x.night(20), 2);
        x.off(0, 0);
        due("nobody is ON it any more", x.night(1), 0);
        x = Due.side(1, 0, 0);
        for (int w = 0; w < 4; w++) {
            x.walker(0, 0);
            x.on(w, 0);
        }
        due("four are ON it", x.night(20), 1);
        due("nothing has drawn", x.seed(1), 1);
        for (int w = 0; w < 3; w++) {
            x.put(w, 5);
        }
        due("one is", x.night(20), 1);
        x.put(3, 0);
        due("nobody is, but at its end", x.night(1), 0);
        Due.about("15: without a PATH nothing draws");
        x = new HeldPaths();
        due("night(20)", x.night(20), 0);
        due("z", x.seed(1), 1);
    }

    /** A night in which the only path draws a number. */
    private static int nightOf(int kind, int stay, int come, boolean there, boolean wet, int draw) {
        HeldPaths x = new HeldPaths();
        x.path(kind, 2, 5, stay, come);
        x.open(0, there);
        x.rain(wet);
        x.seed(seedFor(draw << 16));
        return x.night(1);
    }

    private static void nightsByKinds() {
        Due.about("15: by STAYS and COMES, not STAY and COME");
        due("track, STAY 3: drawn 4", nightOf(1, 3, 0, true, false, 4), 1);
        due("track, STAY 3: drawn 5", nightOf(1, 3, 0, true, false, 5), 0);
        due("wall, STAY 0: drawn 7", nightOf(2, 0, 0, true, false, 7), 1);
        due("wall, COME 8: drawn 0", nightOf(2, 8, 8, false, false, 0), 0);
        due("deer, STAY 3: drawn 1", nightOf(3, 3, 0, true, false, 1), 1);
        due("deer, STAY 3: drawn 2", nightOf(3, 3, 0, true, false, 2), 0);
        due("deer, COME 3: drawn 4", nightOf(3, 0, 3, false, false, 4), 1);
        due("deer, COME 3: drawn 5", nightOf(3, 0, 3, false, false, 5), 0);
        due("bog in RAIN, STAY 3: drawn 1", nightOf(4, 3, 0, true, true, 1), 1);
        due("bog in RAIN, STAY 3: drawn 2", nightOf(4, 3, 0, true, true, 2), 0);
        due("bog in RAIN, COME 8: drawn 0", nightOf(4, 0, 8, false, true, 0), 0);
        due("bog, COME 8: drawn 7", nightOf(4, 0, 8, false, false, 7), 1);
        due("ride, STAY 3: drawn 2", nightOf(5, 3, 0, true, false, 2), 1);
        due("ride, STAY 3: drawn 3", nightOf(5, 3, 0, true, false, 3), 0);
        HeldPaths x = new HeldPaths();
        x.path(5, 2, 5, 0, 0);
        x.walker(5, 0);
        due("ride with a WALKER at an end", x.night(20), 1);
        x.put(0, 4);
        due("ride without", x.night(1), 0);
        x.put(0, 5);
        due("it does not come by him", x.night(20), 0);
    }

    private static void counts() {
        Due.about("16: BAD: another what");
        Due.range("count(what)", Due::taped, (x, v) -> x.count(v), 0, 3, 4, 99);
        Due.about("16: PATHS on which one is (a set), PAY of all WALKERS, of those ON PATHS");
        HeldPaths x = new HeldPaths();
        for (int p = 0; p < 8; p++) {
            x.path(0, 0, 1, 8, 8);
        }
        for (int w = 0; w < 4; w++) {
            due("PAY of those ON PATHS", x.count(4), 99 * w);
            x.walker(w % 2, 99);
            due("PAY of all", x.count(3), 99 * (w + 1));
            due("he is ON none", x.count(4), 99 * w);
            x.on(w, 2 * w + 1);
        }
        due("PATHS with WALKERS", x.count(2), 170);
        due("PAY of those ON PATHS", x.count(4), 396);
        x.put(3, 0);
        x.put(1, 0);
        x.on(1, 1);
        due("two ON one PATH", x.count(2), 34);
        due("PAY of three", x.count(4), 297);
        due("PATHS that are there", x.count(1), 255);
        for (int p = 0; p < 8; p++) {
            x.open(p, false);
        }
        due("but those on which one is", x.count(1), 34);
    }

    private static void seeds() {
        Due.about("17: z becomes v: what it was");
        HeldPaths x = new HeldPaths();
        int was = 1;
        for (int v : new int[] {0, -1, HIGH, LOW, 8, -8, 12345, 1}) {
            due("seed(" + v + ")", x.seed(v), was);
            was = v;
        }
        due("NIGHT is as it was", x.count(0), 0);
    }
}
