/** Promises 18 to 25, what will be: each sentence that names a boundary, at it and on both of its sides. */
public final class AheadBoundariesTest {
    private static final int BAD = Due.BAD, NONE = Due.NONE;
    /** 8 to the 7th, to the 8th; 7 to the 8th, to the 16th. */
    private static final long E7 = 1L << 21, E8 = 1L << 24, S8 = 5764801L, S16 = S8 * S8;

    private static void due(String call, long got, long want) { Due.due(call, got, want); }

    public static void main(String[] args) {
        ways();
        reaches();
        oddsInRange();
        fractions();
        oddsOfNights();
        oddsApart();
        heldInRange();
        heldOfSeveral();
        heldThatAreThere();
        keepersInRange();
        keepersSure();
        keepersOfSeveral();
        homesInRange();
        homesAtTheLine();
        withinInRange();
        withinNights();
        seeking();
        notSeeking();
        Due.end();
    }

    private static HeldPaths line() { return Due.chain(7, 8, 0); }

    /** Eight paths between 0 and 1, none of which is there. */
    private static HeldPaths gone(int paths, int stay, int come) {
        HeldPaths x = Due.side(paths, stay, come);
        for (int p = 0; p < paths; p++) {
            x.open(p, false);
        }
        return x;
    }

    private static HeldPaths with(HeldPaths x, int clearing, int on) {
        int w = x.walker(clearing, 0);
        x.on(w, on);
        return x;
    }

    // ---- 18, 19

    private static void ways() {
        Due.about("18: CLEARINGS 0 to 7");
        Due.range("way(a, 0)", AheadBoundariesTest::line, (x, v) -> x.way(v, 0), 0, 0, 7, 7);
        Due.range("way(0, b)", AheadBoundariesTest::line, (x, v) -> x.way(0, v), 0, 0, 7, 7);
        Due.about("18: NONE");
        Due.refused("way(0, 6)", Due::taped, x -> x.way(0, 6), NONE);
        Due.refused("way(6, 0)", Due::taped, x -> x.way(6, 0), NONE);
        Due.about("18: of several the first named: BAD, then NONE");
        Due.outside("way(6, b)", Due::taped, (x, v) -> x.way(6, v), 0, 7, BAD);
        Due.about("18: Length of the shortest WAY");
        HeldPaths x = line();
        x.path(0, 7, 0, 8, 0);
        for (int a = 0; a < 8; a++) {
            for (int b = 0; b < 8; b++) {
                int apart = Math.abs(a - b);
                due("round: way(" + a + ", " + b + ")", x.way(a, b), Math.min(apart, 8 - apart));
            }
        }
        x.open(7, false);
        for (int a = 0; a < 8; a++) {
            for (int b = 0; b < 8; b++) {
                due("in a line: way(" + a + ", " + b + ")", x.way(a, b), Math.abs(a - b));
            }
        }
        x.open(3, false);
        due("way(3, 4)", x.way(3, 4), NONE);
        due("way(4, 7)", x.way(4, 7), 3);
        due("to itself, without a PATH", new HeldPaths().way(5, 5), 0);
        due("by a PATH on which one is", with(Due.side(1, 0, 0), 0, 0).way(1, 0), 1);
    }

    private static void reaches() {
        Due.about("19: CLEARINGS 0 to 7");
        Due.range("reach(a)", AheadBoundariesTest::line, (x, v) -> x.reach(v), 0, 255, 7, 255);
        Due.range("reach(a)", HeldPaths::new, (x, v) -> x.reach(v), 0, 1, 7, 128);
        Due.about("19: to which one has a WAY (it, too)");
        for (int cut = 0; cut < 7; cut++) {
            HeldPaths x = line();
            x.open(cut, false);
            int low = (2 << cut) - 1;
            for (int a = 0; a < 8; a++) {
                due("cut at " + cut + ": reach(" + a + ")", x.reach(a), a <= cut ? low : 255 & ~low);
            }
        }
    }

    // ---- 20

    private static void oddsInRange() {
        Due.about("20: CLEARINGS 0 to 7, part 0 or 1");
        Due.range("odds(a, 0, 0)", AheadBoundariesTest::line, (x, v) -> x.odds(v, 0, 0), 0, 1, 7, 1);
        Due.range("odds(0, b, 0)", AheadBoundariesTest::line, (x, v) -> x.odds(0, v, 0), 0, 1, 7, 1);
        Due.range("odds(0, 1, part)", () -> Due.side(1, 3, 0), (x, v) -> x.odds(0, 1, v), 0, 3, 1, 8);
        Due.outside("odds(0, 1, part)", Due::taped, (x, v) -> x.odds(0, 1, v), 0, 1, BAD);
        Due.outside("odds(0, 0, part)", Due::taped, (x, v) -> x.odds(0, 0, v), 0, 1, BAD);
    }

    private static void dueOdds(HeldPaths x, int a, int b, long above, long below) {
        due("odds(" + a + ", " + b + ", 0)", x.odds(a, b, 0), above);
        due("odds(" + a + ", " + b + ", 1)", x.odds(a, b, 1), below);
    }

    private static void fractions() {
        Due.about("20: without a common divisor, below above 0 (0 is 0 by 1)");
        int[] above = {0, 1, 1, 3, 1, 5, 3, 7, 1};
        int[] below = {1, 8, 4, 8, 2, 8, 4, 8, 1};
        for (int v = 0; v <= 8; v++) {
            dueOdds(Due.side(1, v, 8 - v), 0, 1, above[v], below[v]);
            dueOdds(gone(1, 8 - v, v), 0, 1, above[v], below[v]);
            dueOdds(gone(1, 8 - v, v), 1, 0, above[v], below[v]);
        }
        dueOdds(new HeldPaths(), 0, 7, 0, 1);
        dueOdds(Due.side(8, 0, 8), 0, 1, 0, 1);
        dueOdds(Due.side(8, 8, 0), 0, 1, 1, 1);
        Due.about("20: eight PATHS, the most there may be");
        dueOdds(Due.side(8, 1, 0), 0, 1, E8 - S8, E8);
        dueOdds(Due.side(8, 7, 0), 0, 1, E8 - 1, E8);
        dueOdds(Due.side(8, 4, 0), 0, 1, 255, 256);
        dueOdds(Due.chain(7, 1, 0), 0, 7, 1, E7);
        dueOdds(Due.chain(7, 7, 0), 0, 7, 823543, E7);
        Due.about("20: 1 from a CLEARING to itself");
        for (int c = 0; c < 8; c++) {
            dueOdds(new HeldPaths(), c, c, 1, 1);
            dueOdds(Due.chain(8, 0, 0), c, c, 1, 1);
            dueOdds(Due.chain(8, 1, 1), c, c, 1, 1);
        }
    }

    private static void oddsOfNights() {
        Due.about("20: by STAYS or COMES as all is now; those on which one is stay");
        HeldPaths x = with(Due.side(1, 0, 0), 0, 0);
        dueOdds(x, 0, 1, 1, 1);
        x.off(0, 0);
        dueOdds(x, 0, 1, 0, 1);
        x = new HeldPaths();
        x.path(4, 0, 1, 3, 6);
        dueOdds(x, 0, 1, 5, 8);
        x.rain(true);
        dueOdds(x, 0, 1, 1, 4);
        x.open(0, false);
        dueOdds(x, 0, 1, 0, 1);
        x.rain(false);
        dueOdds(x, 0, 1, 3, 4);
        x = new HeldPaths();
        x.path(5, 0, 1, 3, 2);
        dueOdds(x, 0, 1, 3, 8);
        x.walker(1, 0);
        dueOdds(x, 0, 1, 1, 1);
        x.on(0, 0);
        dueOdds(x, 0, 1, 1, 1);
        x.off(0, 1);
        x.open(0, false);
        dueOdds(x, 0, 1, 1, 4);
        Due.about("20: behind the next NIGHT, whether there is a WAY now or not");
        x = new HeldPaths();
        x.path(0, 0, 1, 0, 8);
        x.path(0, 1, 2, 0, 8);
        x.open(1, false);
        dueOdds(x, 0, 1, 0, 1);
        dueOdds(x, 1, 2, 1, 1);
        due("nothing changes", x.count(1), 1);
        due("nothing changes", x.seed(1), 1);
    }

    /** Two paths that are sure, anywhere: they join their own ends, and nothing else. */
    private static void oddsApart() {
        Due.about("20: with what odds there is one: who has no PATH has no WAY, whatever there is elsewhere");
        for (int pairs = 0; pairs < 8 * 8 * 8 * 8; pairs++) {
            int a = pairs & 7, b = pairs >> 3 & 7, c = pairs >> 6 & 7, d = pairs >> 9;
            if (a < b && c < d) {
                HeldPaths x = new HeldPaths();
                x.path(0, a, b, 8, 0);
                x.path(2, d, c, 0, 0);
                int one = 1 << a | 1 << b, two = 1 << c | 1 << d;
                boolean met = (one & two) != 0;
                for (int from = 0; from < 8; from++) {
                    int own = 1 << from;
                    int joined = own | ((own & one) != 0 ? one : 0) | ((own & two) != 0 ? two : 0);
                    int reach = met && joined != own ? one | two : joined;
                    due("reach(" + from + ")", x.reach(from), reach);
                    due("home(" + from + ", 8)", x.home(from, 8), reach);
                    due("home(" + from + ", 1)", x.home(from, 1), reach);
                }
            }
        }
    }

    // ---- 21

    private static void heldInRange() {
        Due.about("21: n 0 to 3, CLEARINGS 0 to 7");
        Due.range("held(0, 4, n)", () -> Due.chain(4, 4, 0), (x, v) -> x.held(0, 4, v), 0, 0, 3, 7);
        Due.range("held(a, 0, 1)", () -> Due.chain(7, 4, 0), (x, v) -> x.held(v, 0, 1), 0, 0, 7, 1);
        Due.range("held(0, b, 1)", () -> Due.chain(7, 4, 0), (x, v) -> x.held(0, v, 1), 0, 0, 7, 1);
        Due.outside("held(0, 1, n)", Due::taped, (x, v) -> x.held(0, 1, v), 0, 3, BAD);
        Due.outside("held(0, 0, n)", HeldPaths::new, (x, v) -> x.held(0, 0, v), 0, 3, BAD);
        Due.about("21: of all sets of n PATHS or fewer");
        HeldPaths x = Due.chain(5, 4, 0);
        int[] sets = {0, 1, 3, 7};
        for (int n = 0; n <= 3; n++) {
            due("held(0, 5, " + n + ")", x.held(0, 5, n), sets[n]);
            due("of one PATH: held(0, 1, " + n + ")", x.held(0, 1, n), n == 0 ? 0 : 1);
            due("to itself: held(3, 3, " + n + ")", x.held(3, 3, n), 0);
            due("without any: held(0, 7, " + n + ")", x.held(0, 7, n), 0);
        }
        due("nothing changes", x.count(2), 0);
        due("the last three of eight", lastThree().held(0, 3, 3), 224);
        due("three, where four would be needed", Due.chain(4, 0, 0).held(0, 4, 3), 0);
        due("three, where three are needed", Due.chain(3, 0, 0).held(0, 3, 3), 7);
        due("two, where three are needed", Due.chain(3, 0, 0).held(0, 3, 2), 0);
    }

    private static HeldPaths lastThree() {
        HeldPaths x = new HeldPaths();
        for (int i = 0; i < 5; i++) {
            x.path(0, 6, 7, 0, 0);
        }
        for (int i = 0; i < 3; i++) {
            x.path(0, i, i + 1, 0, 0);
        }
        return x;
    }

    private static void heldOfSeveral() {
        Due.about("21: greatest; of several that with the fewest, then the least as bits");
        HeldPaths x = new HeldPaths();
        x.path(0, 0, 2, 0, 0);
        x.path(0, 2, 1, 0, 0);
        x.path(0, 0, 1, 0, 0);
        due("one PATH of bits 4, not two of bits 3", x.held(0, 1, 2), 4);
        due("one PATH of bits 4, not two of bits 3", x.held(0, 1, 3), 4);
        x.open(2, false);
        due("two of bits 3", x.held(0, 1, 2), 3);
        for (int stay = 0; stay < 8; stay++) {
            due("of eight alike the least", Due.side(8, stay, 0).held(0, 1, 1), 1);
            due("of eight alike one", Due.side(8, stay, 0).held(0, 1, 3), 1);
        }
        due("none, if one is sure", Due.side(8, 8, 0).held(0, 1, 3), 0);
        x = new HeldPaths();
        x.path(0, 0, 2, 4, 0);
        x.path(0, 1, 3, 4, 0);
        x.path(0, 3, 0, 4, 0);
        x.path(0, 2, 1, 4, 0);
        due("bits 6 before bits 9", x.held(0, 1, 2), 6);
        Due.about("21: the greatest, by however little");
        x = Due.side(7, 1, 0);
        x.path(0, 1, 2, 7, 0);
        // Held: the last 1 - (7/8)^7 of 8/8; another 8/8 of 7/8.
        due("another one", x.held(0, 2, 1), 1);
        x = new HeldPaths();
        x.path(0, 0, 1, 6, 0);
        x.path(0, 1, 2, 5, 0);
        due("5/8 gains more than 6/8", x.held(0, 2, 1), 2);
        due("both", x.held(0, 2, 2), 3);
    }

    private static void heldThatAreThere() {
        Due.about("21: PATHS that are there");
        HeldPaths x = Due.chain(3, 4, 4);
        x.open(1, false);
        due("not the one that isn't", x.held(0, 3, 3), 5);
        due("none is", gone(8, 0, 7).held(0, 1, 3), 0);
        Due.about("21: if somebody were ON each of them, too");
        x = with(Due.chain(4, 0, 0), 0, 0);
        due("the three others", x.held(0, 4, 3), 14);
        due("two of them are too few", x.held(0, 4, 2), 0);
        x = new HeldPaths();
        x.path(5, 0, 1, 3, 0);
        due("a ride", x.held(0, 1, 1), 1);
        x.walker(0, 0);
        due("a ride with a WALKER at an end stays anyway", x.held(0, 1, 1), 0);
        x.path(5, 1, 2, 3, 0);
        due("who would be ON a ride is at no end of another one", x.held(0, 2, 1), 2);
    }

    // ---- 22

    private static void keepersInRange() {
        Due.about("22: CLEARINGS 0 to 7, what 0 or 1");
        Due.range("keepers(0, 7, what)", () -> Due.chain(7, 0, 0), (x, v) -> x.keepers(0, 7, v), 0, 7, 1, 127);
        Due.range("keepers(a, 0, 0)", () -> Due.chain(7, 0, 0), (x, v) -> x.keepers(v, 0, 0), 0, 0, 7, 7);
        Due.range("keepers(0, b, 0)", () -> Due.chain(7, 0, 0), (x, v) -> x.keepers(0, v, 0), 0, 0, 7, 7);
        Due.about("22: NONE");
        Due.refused("keepers(0, 6, 0)", Due::taped, x -> x.keepers(0, 6, 0), NONE);
        Due.refused("keepers(0, 6, 1)", Due::taped, x -> x.keepers(0, 6, 1), NONE);
        Due.refused("keepers(0, 1, 0), not there", () -> gone(8, 8, 8), x -> x.keepers(0, 1, 0), NONE);
        Due.about("22: of several the first named: BAD, then NONE");
        Due.outside("keepers(0, 6, what)", Due::taped, (x, v) -> x.keepers(0, 6, v), 0, 1, BAD);
        Due.outside("keepers(a, 6, 0)", Due::taped, (x, v) -> x.keepers(v, 6, 0), 0, 7, BAD);
        Due.about("22: from a CLEARING to itself nobody is needed");
        for (int c = 0; c < 8; c++) {
            due("keepers(" + c + ", " + c + ", 0)", new HeldPaths().keepers(c, c, 0), 0);
            due("keepers(" + c + ", " + c + ", 1)", Due.chain(8, 0, 0).keepers(c, c, 1), 0);
        }
    }

    private static int needed(int kind, int stay) {
        HeldPaths x = new HeldPaths();
        x.path(kind, 0, 1, stay, 8);
        return x.keepers(0, 1, 0);
    }

    private static void keepersSure() {
        Due.about("22: which STAYS 8");
        due("path, STAY 7", needed(0, 7), 1);
        due("path, STAY 8", needed(0, 8), 0);
        due("track, STAY 5", needed(1, 5), 1);
        due("track, STAY 6", needed(1, 6), 0);
        due("wall, STAY 0", needed(2, 0), 0);
        due("deer, STAY 8", needed(3, 8), 1);
        due("bog, STAY 5", needed(4, 5), 1);
        due("bog, STAY 6", needed(4, 6), 0);
        due("ride, STAY 7", needed(5, 7), 1);
        due("ride, STAY 8", needed(5, 8), 0);
        HeldPaths x = new HeldPaths();
        x.path(4, 0, 1, 8, 0);
        x.rain(true);
        due("bog in RAIN", x.keepers(0, 1, 0), 1);
        x = new HeldPaths();
        x.path(5, 0, 1, 0, 0);
        x.walker(0, 0);
        due("ride with a WALKER at an end", x.keepers(0, 1, 0), 0);
        Due.about("22: each of which somebody is ON");
        x = with(Due.chain(3, 0, 0), 1, 1);
        due("how many", x.keepers(0, 3, 0), 2);
        due("which", x.keepers(0, 3, 1), 5);
        x.walker(0, 0);
        x.on(1, 0);
        due("which", x.keepers(0, 3, 1), 4);
        Due.about("22: by PATHS that are there");
        x = Due.chain(2, 8, 8);
        x.open(1, false);
        due("one comes for sure, but isn't there", x.keepers(0, 2, 0), NONE);
        x.path(0, 1, 2, 0, 0);
        due("another one is", x.keepers(0, 2, 1), 4);
    }

    private static void keepersOfSeveral() {
        Due.about("22: the fewest; the least set of as many (as bits)");
        HeldPaths x = new HeldPaths();
        x.path(0, 0, 2, 7, 0);
        x.path(0, 2, 1, 7, 0);
        x.path(0, 0, 1, 0, 0);
        due("one of bits 4, not two of bits 3", x.keepers(0, 1, 1), 4);
        due("how many", x.keepers(0, 1, 0), 1);
        x = new HeldPaths();
        x.path(0, 0, 2, 4, 0);
        x.path(0, 1, 3, 4, 0);
        x.path(0, 3, 0, 4, 0);
        x.path(0, 2, 1, 4, 0);
        due("bits 6 before bits 9", x.keepers(0, 1, 1), 6);
        due("how many", x.keepers(0, 1, 0), 2);
        for (int from = 0; from < 8; from++) {
            x = Due.side(8, 0, 0);
            for (int p = 0; p < from; p++) {
                x.open(p, false);
            }
            due("the least that is there", x.keepers(0, 1, 1), 1 << from);
        }
    }

    // ---- 23

    private static void homesInRange() {
        Due.about("23: CLEARINGS 0 to 7, eighths 0 to 8");
        Due.range("home(0, eighths)", HeldPaths::new, (x, v) -> x.home(0, v), 0, 255, 8, 1);
        Due.range("home(a, 8)", HeldPaths::new, (x, v) -> x.home(v, 8), 0, 1, 7, 128);
        Due.outside("home(0, eighths)", Due::taped, (x, v) -> x.home(0, v), 0, 8, BAD);
        due("all, by a line that is sure", line().home(7, 8), 255);
    }

    private static void homesAtTheLine() {
        Due.about("23: ODDS are a told number by 8, or more");
        for (int stay = 0; stay <= 8; stay++) {
            HeldPaths x = Due.side(1, stay, 0);
            due("0 by 8: all", x.home(0, 0), 255);
            for (int e = 1; e <= 8; e++) {
                due("STAY " + stay + ": home(0, " + e + ")", x.home(0, e), stay >= e ? 3 : 1);
                due("STAY " + stay + ": home(1, " + e + ")", x.home(1, e), stay >= e ? 3 : 2);
            }
        }
        // 4 by 8, less 4 by 8 to the 8th
        HeldPaths x = Due.side(7, 7, 0);
        x.path(0, 1, 2, 4, 0);
        due("a hair below 4: home(0, 4)", x.home(0, 4), 3);
        due("a hair below 4: home(0, 3)", x.home(0, 3), 7);
        // 4 by 8, and 4 by 8 to the 8th more
        x = new HeldPaths();
        x.path(0, 0, 1, 4, 0);
        for (int c = 1; c < 7; c++) {
            x.path(0, c, c + 1, 1, 0);
        }
        x.path(0, 7, 0, 1, 0);
        due("a hair above 4: home(0, 4)", x.home(0, 4) & 2, 2);
        due("a hair above 4: home(0, 5)", x.home(0, 5) & 2, 0);
        due("a hair below 8: home(0, 8)", Due.side(8, 7, 0).home(0, 8), 1);
        due("a hair below 8: home(0, 7)", Due.side(8, 7, 0).home(0, 7), 3);
        due("by COMES: home(0, 6)", gone(1, 0, 6).home(0, 6), 3);
        due("by COMES: home(0, 7)", gone(1, 8, 6).home(0, 7), 1);
        due("by one who is ON it: home(0, 8)", with(Due.side(1, 0, 0), 0, 0).home(0, 8), 3);
    }

    // ---- 24

    private static void withinInRange() {
        Due.about("24: CLEARINGS 0 to 7, n 0 to 2, part 0 or 1");
        Due.range("within(0, 1, n, 0)", () -> gone(1, 8, 4), (x, v) -> x.within(0, 1, v, 0), 0, 0, 2, 3);
        Due.range("within(0, 1, 1, part)", () -> gone(1, 8, 4), (x, v) -> x.within(0, 1, 1, v), 0, 1, 1, 2);
        Due.range("within(a, 0, 2, 0)", AheadBoundariesTest::line, (x, v) -> x.within(v, 0, 2, 0), 0, 1, 7, 1);
        Due.range("within(0, b, 2, 0)", AheadBoundariesTest::line, (x, v) -> x.within(0, v, 2, 0), 0, 1, 7, 1);
        for (int i = 0; i < 3; i++) {
            int n = i;
            Due.outside("within(0, 0, n, part)", Due::taped, (x, v) -> x.within(0, 0, n, v), 0, 1, BAD);
        }
    }

    private static void dueWithin(HeldPaths x, int a, int b, int n, long above, long below) {
        due("within(" + a + ", " + b + ", " + n + ", 0)", x.within(a, b, n, 0), above);
        due("within(" + a + ", " + b + ", " + n + ", 1)", x.within(a, b, n, 1), below);
    }

    private static void withinNights() {
        Due.about("24: within no night: by the WAYS that there are now");
        dueWithin(Due.side(1, 0, 0), 0, 1, 0, 1, 1);
        dueWithin(gone(1, 8, 8), 0, 1, 0, 0, 1);
        for (int n = 0; n <= 2; n++) {
            dueWithin(new HeldPaths(), 4, 4, n, 1, 1);
            dueWithin(new HeldPaths(), 4, 5, n, 0, 1);
            dueWithin(Due.side(1, 0, 0), 0, 1, n, 1, 1);
            dueWithin(Due.chain(7, 0, 0), 7, 0, n, 1, 1);
            dueWithin(gone(1, 8, 8), 0, 1, n, n == 0 ? 0 : 1, 1);
        }
        Due.about("24: without a common divisor, below above 0");
        int[] above = {0, 1, 1, 3, 1, 5, 3, 7, 1};
        int[] below = {1, 8, 4, 8, 2, 8, 4, 8, 1};
        int[] aboveTwo = {0, 15, 7, 39, 3, 55, 15, 63, 1};
        int[] belowTwo = {1, 64, 16, 64, 4, 64, 16, 64, 1};
        for (int come = 0; come <= 8; come++) {
            dueWithin(gone(1, 0, come), 0, 1, 1, above[come], below[come]);
            dueWithin(gone(1, 0, come), 0, 1, 2, aboveTwo[come], belowTwo[come]);
        }
        Due.about("24: eight PATHS, two nights: the longest numbers");
        dueWithin(gone(8, 0, 1), 0, 1, 1, E8 - S8, E8);
        dueWithin(gone(8, 0, 1), 0, 1, 2, E8 * E8 - S16, E8 * E8);
        dueWithin(gone(8, 0, 7), 0, 1, 2, E8 * E8 - 1, E8 * E8);
        Due.about("24: behind the first night PATHS that came STAY, others come, by what they are");
        HeldPaths two = new HeldPaths();
        two.path(0, 0, 1, 2, 4);
        two.path(0, 1, 2, 2, 4);
        Due.close(two, 0, 1);
        // Behind the first night by 1/4 each: both; the first alone, then he waits in 1: 1/2; the second alone, he
        // waits in 0: 1/2 of 1/4; none: 1/2 of 1/2.
        dueWithin(two, 0, 2, 1, 1, 4);
        dueWithin(two, 0, 2, 2, 15, 32);
        Due.about("24: he waits where it is best");
        HeldPaths x = new HeldPaths();
        x.path(0, 0, 1, 0, 0);
        x.path(0, 1, 2, 0, 3);
        x.path(0, 0, 2, 0, 2);
        x.open(1, false);
        x.open(2, false);
        dueWithin(x, 0, 2, 1, 3, 8);
        x.open(0, false);
        dueWithin(x, 0, 2, 1, 1, 4);
        Due.about("24: somebody (no WALKER): nothing stays by him");
        x = new HeldPaths();
        x.path(5, 1, 2, 0, 0);
        x.path(0, 0, 1, 0, 2);
        x.path(0, 0, 2, 0, 3);
        Due.close(x, 1, 2);
        dueWithin(x, 1, 0, 1, 3, 8);
        x.walker(1, 0);
        // The ride stays by the WALKER: 1 less 6/8 of 5/8.
        dueWithin(x, 1, 0, 1, 17, 32);
        due("nothing changes", x.count(1), 1);
        due("nothing changes", x.seed(1), 1);
    }

    // ---- 25

    /** From 7 three paths to 2, 4 and 5, which are not there and come by 4 of 8. */
    private static HeldPaths lost() {
        HeldPaths x = new HeldPaths();
        x.path(0, 7, 2, 0, 4);
        x.path(0, 4, 7, 0, 4);
        x.path(0, 7, 5, 0, 4);
        Due.close(x, 0, 1, 2);
        return x;
    }

    private static HeldPaths farApart() {
        HeldPaths x = new HeldPaths();
        x.path(0, 0, 7, 0, 4);
        x.open(0, false);
        return x;
    }

    private static void seeking() {
        Due.about("25: CLEARINGS 0 to 7");
        Due.range("seek(a)", AheadBoundariesTest::farApart, (x, v) -> x.seek(v), 0, 7, 7, 0);
        Due.outside("seek(a)", HeldPaths::new, (x, v) -> x.seek(v), 0, 7, BAD);
        Due.about("25: the most WEIGHT times ODDS; of several the least");
        HeldPaths x = lost();
        due("of three alike", x.seek(7), 2);
        x.weigh(5, 2);
        due("5 weighs 2", x.seek(7), 5);
        x.weigh(4, 2);
        due("4 and 5 weigh 2", x.seek(7), 4);
        x.weigh(2, 2);
        due("all weigh 2", x.seek(7), 2);
        x.weigh(2, 1);
        x.weigh(4, 0);
        x.weigh(5, 0);
        due("2 weighs 1, 4 and 5 weigh 0", x.seek(7), 2);
        x = new HeldPaths();
        x.path(0, 0, 1, 0, 8);
        x.path(0, 0, 2, 0, 1);
        Due.close(x, 0, 1);
        x.weigh(2, 8);
        due("8 times 1/8 is 1 times 8/8", x.seek(0), 1);
        x.weigh(2, 9);
        due("9 times 1/8 is more than 1 times 8/8", x.seek(0), 2);
        x = Due.chain(7, 0, 1);
        Due.close(x, 0, 1, 2, 3, 4, 5, 6);
        due("the next one", x.seek(0), 1);
        for (int c = 1; c < 7; c++) {
            x.weigh(c, 0);
        }
        due("by 1 of 8 to the 7th", x.seek(0), 7);
        Due.about("25: that a CLEARING has no WAY to");
        x = lost();
        x.weigh(2, 9);
        x.open(0, true);
        due("2 has a WAY", x.seek(7), 4);
        x.open(1, true);
        due("4 has a WAY, too", x.seek(7), 5);
    }

    private static void notSeeking() {
        Due.about("25: NONE: it has a WAY to all");
        Due.refused("seek(0)", AheadBoundariesTest::line, x -> x.seek(0), NONE);
        Due.refused("seek(7)", AheadBoundariesTest::line, x -> x.seek(7), NONE);
        Due.about("25: NONE: all have WEIGHT times ODDS 0");
        Due.refused("no ODDS", HeldPaths::new, x -> x.seek(0), NONE);
        Due.refused("no ODDS", AheadBoundariesTest::farApart, x -> x.seek(3), NONE);
        Due.refused("no WEIGHT", () -> {
            HeldPaths x = farApart();
            x.weigh(7, 0);
            return x;
        }, x -> x.seek(0), NONE);
        HeldPaths x = farApart();
        x.weigh(0, 0);
        due("its own WEIGHT does not count", x.seek(0), 7);
        due("but the other's", x.seek(7), NONE);
    }
}
