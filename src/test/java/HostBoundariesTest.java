/** Promises 35 to 44, the host and what is kept: each sentence that names a boundary, at it and on both of its sides. */
public final class HostBoundariesTest {
    private static final int LOW = Due.LOW, HIGH = Due.HIGH, BAD = Due.BAD, NONE = Due.NONE;

    private static void due(String call, long got, long want) { Due.due(call, got, want); }

    public static void main(String[] args) {
        sheets();
        sheetsMissing();
        writing();
        narrowing();
        items();
        shelves();
        shelvesHold();
        taking();
        takingUnder();
        actsWithout();
        sharing();
        partedByZero();
        wrapping();
        tracing();
        counting();
        keeping();
        notKept();
        keptApart();
        comingAgain();
        manyCalls();
        Due.end();
    }

    // ---- 35

    private static void sheets() {
        Due.about("35: BAD: no such SHEET, sort, n above 40");
        Due.range("sheet(sheet, 0, 1)", Due::taped, (x, v) -> x.sheet(v, 0, 1), 0, 1, 3, 1);
        Due.range("sheet(sheet, -1, 1)", Due::taped, (x, v) -> x.sheet(v, -1, 1), 0, 1, 3, 1);
        Due.range("sheet(0, sort, 1)", Due::taped, (x, v) -> x.sheet(0, v, 1), -1, 1, 3, 1);
        for (int i = 0; i < 4; i++) {
            int sort = i;
            due("sheet(0, " + sort + ", 0)", Due.taped().sheet(0, sort, 0), 1);
            due("sheet(0, " + sort + ", 40)", Due.taped().sheet(0, sort, 40), 1);
            for (int n : new int[] {41, 42, 256, HIGH}) {
                Due.refused("sheet(0, " + sort + ", " + n + ")", Due::taped, x -> x.sheet(0, sort, n), BAD);
            }
        }
        Due.about("35: -14: a size below 0");
        for (int n : new int[] {-1, -2, -40, -41, LOW, LOW + 1}) {
            for (int i = 0; i < 4; i++) {
                int sort = i;
                Due.refused("sheet(0, " + sort + ", " + n + ")", Due::taped, x -> x.sheet(0, sort, n), -14);
            }
        }
        Due.about("35: of several the first named: BAD, then -14");
        Due.outside("sheet(sheet, 0, -1)", Due::taped, (x, v) -> x.sheet(v, 0, -1), 0, 3, BAD);
        Due.outside("sheet(0, sort, -1)", Due::taped, (x, v) -> x.sheet(0, v, -1), -1, 3, BAD);
        Due.about("35: becomes a row of n of a sort, all 0");
        for (int sort = 0; sort < 4; sort++) {
            HeldPaths x = Due.full();
            due("sheet(2, " + sort + ", 40)", x.sheet(2, sort, 40), 1);
            for (int i = 0; i < 40; i++) {
                due("item " + i, x.item(2, sort, i), 0);
            }
            due("item 40", x.item(2, sort, 40), -12);
            due("another SHEET is as it was", x.item(1, 1, 39), 1000);
        }
    }

    private static void sheetsMissing() {
        Due.about("35: or missing (sort -1; n counts nothing then)");
        for (int n : new int[] {0, 1, 40, 41, -1, HIGH, LOW}) {
            HeldPaths x = Due.taped();
            due("sheet(0, -1, " + n + ")", x.sheet(0, -1, n), 1);
            due("item(0, 2, 0)", x.item(0, 2, 0), -11);
            due("once more", x.sheet(0, -1, n), 1);
            due("write(0, 0, 1)", x.write(0, 0, 1), -11);
            due("lays(0)", x.lays(0), -11);
        }
        Due.about("35: a row of none is not missing");
        HeldPaths x = Due.taped();
        x.sheet(0, 2, 0);
        due("item(0, 2, 0)", x.item(0, 2, 0), -12);
        due("item(0, 1, 0)", x.item(0, 1, 0), -13);
        due("write(0, 0, 1)", x.write(0, 0, 1), -12);
        due("lays(0)", x.lays(0), 0);
        x.shelf(3, 1, 0);
        due("taken(3, 12)", x.taken(3, 12), 0);
    }

    // ---- 36, 37

    private static void writing() {
        Due.about("36: BAD: no such SHEET; -11; -12");
        Due.outside("write(sheet, 0, 5)", Due::taped, (x, v) -> x.write(v, 0, 5), 0, 3, BAD);
        Due.outside("write(sheet, 99, 5)", Due::taped, (x, v) -> x.write(v, 99, 5), 0, 3, BAD);
        Due.refused("write(3, 0, 5), missing", Due::taped, x -> x.write(3, 0, 5), -11);
        Due.refused("write(3, -1, 5), missing", Due::taped, x -> x.write(3, -1, 5), -11);
        Due.refused("write(2, 0, 5), of none", Due::taped, x -> x.write(2, 0, 5), -12);
        Due.outside("write(0, i, 5), of three", Due::taped, (x, v) -> x.write(0, v, 5), 0, 2, -12);
        for (int s = 0; s < 4; s++) {
            int sheet = s;
            Due.outside("write(" + s + ", i, 5), of 40", Due::full, (x, v) -> x.write(sheet, v, 5), 0, 39, -12);
            HeldPaths x = Due.full();
            due("write(" + s + ", 0, 5)", x.write(s, 0, 5), 1);
            due("write(" + s + ", 39, 6)", x.write(s, 39, 6), 1);
            due("item 0", x.item(s, s, 0), 5);
            due("item 1", x.item(s, s, 1), 0);
            due("item 38", x.item(s, s, 38), 0);
            due("item 39", x.item(s, s, 39), 6);
        }
    }

    private static void narrowing() {
        Due.about("36: narrowed to its sort");
        int[] told = {
            0, 127, 128, -128, -129, 255, 256, 32767, 32768, -32768, -32769, 65535, 65536, HIGH, LOW, -1, 0x1234ff80
        };
        int[] bytes = {0, 127, -128, -128, 127, -1, 0, -1, 0, 0, -1, -1, 0, -1, 0, -1, -128};
        int[] shorts = {
            0, 127, 128, -128, -129, 255, 256, 32767, -32768, -32768, 32767, -1, 0, -1, 0, -1, -128
        };
        HeldPaths x = new HeldPaths();
        for (int sort = 0; sort < 4; sort++) {
            x.sheet(sort, sort, 1);
        }
        for (int i = 0; i < told.length; i++) {
            int[] want = {bytes[i], shorts[i], told[i], told[i]};
            for (int sort = 0; sort < 4; sort++) {
                due("write(" + sort + ", 0, " + told[i] + ")", x.write(sort, 0, told[i]), 1);
                due("item(" + sort + ", " + sort + ", 0)", x.item(sort, sort, 0), want[sort]);
            }
        }
    }

    private static void items() {
        Due.about("37: BAD: no such SHEET, sort");
        Due.outside("item(sheet, 2, 0)", Due::taped, (x, v) -> x.item(v, 2, 0), 0, 3, BAD);
        Due.outside("item(0, sort, 0)", Due::taped, (x, v) -> x.item(0, v, 0), 0, 3, BAD);
        Due.outside("item(3, sort, 0), missing", Due::taped, (x, v) -> x.item(3, v, 0), 0, 3, BAD);
        Due.outside("item(0, sort, 99)", Due::taped, (x, v) -> x.item(0, v, 99), 0, 3, BAD);
        Due.about("37: -11; -13; -12, the first named");
        for (int i = 0; i < 4; i++) {
            int sort = i;
            Due.refused("item(3, " + sort + ", 0), missing", Due::taped, x -> x.item(3, sort, 0), -11);
            Due.refused("item(3, " + sort + ", -1), missing", Due::taped, x -> x.item(3, sort, -1), -11);
            for (int at : new int[] {0, 2, 3, -1}) {
                int want = sort != 2 ? -13 : at == 0 ? 1 : at == 2 ? -4 : -12;
                Due.refused("item(0, " + sort + ", " + at + "), of three ints", Due::taped, x -> x.item(0, sort, at), want);
            }
            Due.outside("item(" + sort + ", " + sort + ", i)", Due::full, (x, v) -> x.item(sort, sort, v), 0, 39, -12);
        }
        Due.about("37: (An item may be as low as these, too.)");
        HeldPaths x = Due.taped();
        for (int v = -20; v < 0; v++) {
            x.write(0, 1, v);
            due("item(0, 2, 1)", x.item(0, 2, 1), v);
        }
        Due.about("37: of longs the lowest 32 bits");
        for (int v : new int[] {LOW, HIGH, -1, 0}) {
            x.write(1, 39, v);
            due("item(1, 3, 39)", x.item(1, 3, 39), v);
        }
    }

    // ---- 38, 39

    private static void shelves() {
        Due.about("38: BAD: no such SHELF, what, thing");
        for (int i = 0; i < 3; i++) {
            int what = i;
            Due.range("shelf(shelf, " + what + ", 0)", Due::taped, (x, v) -> x.shelf(v, what, 0), 0, 1, 3, 1);
        }
        Due.range("shelf(0, what, 0)", Due::taped, (x, v) -> x.shelf(0, v, 0), 0, 1, 2, 1);
        Due.range("shelf(1, 0, n)", Due::taped, (x, v) -> x.shelf(1, 0, v), 0, 1, 5, 1);
        Due.range("shelf(1, 0, n)", Due::full, (x, v) -> x.shelf(1, 0, v), 0, 1, 7, 1);
        Due.range("shelf(0, 1, n)", Due::taped, (x, v) -> x.shelf(0, 1, v), 0, 1, 3, 1);
        Due.refused("shelf(0, 0, 0), no path", HeldPaths::new, x -> x.shelf(0, 0, 0), BAD);
        for (int n : new int[] {-1, 0, 4, 8, LOW, HIGH}) {
            HeldPaths x = Due.taped();
            due("shelf(0, 2, " + n + ")", x.shelf(0, 2, n), 1);
            due("it holds nothing", x.taken(0, 0), -11);
        }
        Due.about("38: the row of SHEET n (nothing, if missing)");
        HeldPaths x = Due.taped();
        due("shelf(0, 1, 3)", x.shelf(0, 1, 3), 1);
        due("it holds nothing", x.taken(0, 10), -11);
        due("shelf(0, 1, 2), a row of none", x.shelf(0, 1, 2), 1);
        due("it holds a row", x.taken(0, 10), 0);
        x.sheet(3, 0, 9);
        x.shelf(1, 1, 3);
        x.shelf(2, 1, 3);
        due("two hold the same row", x.taken(1, 10), 9);
        due("two hold the same row", x.taken(2, 10), 9);
    }

    private static void shelvesHold() {
        Due.about("38: a PATH (by its number; nothing, if there is no such one any more)");
        HeldPaths x = Due.full();
        x.wood();
        for (int s = 0; s < 4; s++) {
            x.path(0, 0, 1, 0, 0);
        }
        for (int s = 0; s < 4; s++) {
            due("shelf(" + s + ", 0, " + s + ")", x.shelf(s, 0, s), 1);
        }
        Due.told(x, "wall 0 1 stay 0 come 0;bog 0 1 stay 0 come 0;");
        due("PATH 0 is a wall now", x.taken(0, 2), 0);
        due("PATH 1 is a bog now", x.taken(1, 4), 1);
        due("PATH 1 is the last", x.taken(1, 2), -13);
        due("PATH 2 is no more", x.taken(2, 0), -11);
        due("PATH 3 is no more", x.taken(3, 0), -11);
        due("nor taken for a row", x.taken(3, 10), -11);
        due("nothing acts", x.act(3, 0, 5), 0);
        Due.about("38: a PATH that is not there is a PATH still");
        x.open(1, false);
        due("taken(1, 4)", x.taken(1, 4), 1);
        due("shelf(2, 0, 1)", x.shelf(2, 0, 1), 1);
        due("act(2, 0, 5)", x.act(2, 0, 5), 5);
    }

    private static void taking() {
        Due.about("39: BAD: no such SHELF, as");
        Due.range("taken(shelf, 0)", Due::taped, (x, v) -> x.taken(v, 0), 0, 3, 3, -11);
        Due.outside("taken(shelf, 12)", Due::taped, (x, v) -> x.taken(v, 12), 0, 3, BAD);
        for (int i = 0; i < 4; i++) {
            int shelf = i;
            for (int as : new int[] {-1, 6, 7, 8, 9, 14, 15, LOW, LOW + 9, LOW + 10, LOW + 13, HIGH, 256, 266}) {
                Due.refused("taken(" + i + ", " + as + ")", Due::taped, x -> x.taken(shelf, as), BAD);
            }
        }
        Due.about("39: -11; -13");
        for (int as : new int[] {0, 1, 2, 3, 4, 5, 10, 11, 12, 13}) {
            Due.refused("taken(3, " + as + "), nothing", Due::taped, x -> x.taken(3, as), -11);
            int bog = as == 0 || as == 1 || as == 4 ? 3 : -13;
            Due.refused("taken(0, " + as + "), a bog", Due::taped, x -> x.taken(0, as), bog);
            Due.refused("taken(1, " + as + "), three ints", Due::taped, x -> x.taken(1, as), as == 12 ? 3 : -13);
            Due.refused("taken(2, " + as + "), a path", Due::taped, x -> x.taken(2, as), as == 0 ? 0 : -13);
        }
        Due.about("39: how many items (0 to 40)");
        HeldPaths x = new HeldPaths();
        for (int sort = 0; sort < 4; sort++) {
            for (int n : new int[] {0, 1, 39, 40}) {
                x.sheet(sort, sort, n);
                x.shelf(sort, 1, sort);
                due("taken(" + sort + ", " + (10 + sort) + ")", x.taken(sort, 10 + sort), n);
            }
        }
    }

    private static void takingUnder() {
        Due.about("39: of KIND as, or one under it: track, wall, ride under path; deer, bog under track");
        String[] asOf = {"0", "01", "02", "013", "014", "05"};
        for (int number : new int[] {0, 7}) {
            for (int kind = 0; kind < 6; kind++) {
                HeldPaths x = Due.side(number, 0, 0);
                x.path(kind, 0, 1, 0, 0);
                x.shelf(3, 0, number);
                for (int as = 0; as < 6; as++) {
                    int want = asOf[kind].indexOf('0' + as) >= 0 ? number : -13;
                    due("KIND " + kind + " taken for " + as, x.taken(3, as), want);
                }
            }
        }
    }

    // ---- 40, 41

    private static void actsWithout() {
        Due.about("40: 0, and no TRACE then: no such SHELF, act, nothing, a row");
        int[][] calls = {
            {-1, 0}, {4, 0}, {LOW, 0}, {HIGH, 0}, {256, 0}, {0, -1}, {0, 4}, {0, LOW}, {0, HIGH}, {0, 256},
            {1, 0}, {1, 3}, {3, 0}, {3, 3}, {-1, -1}, {3, 4}, {1, -1}
        };
        for (int[] c : calls) {
            HeldPaths x = Due.taped();
            due("there is a TRACE", x.trace(0), 13);
            due("act(" + c[0] + ", " + c[1] + ", 5)", x.act(c[0], c[1], 5), 0);
            due("many(5)", x.many(5), 0);
            due("trace(0)", x.trace(0), NONE);
            Due.same("act(" + c[0] + ", " + c[1] + ", 5)", Due.allButTrace(x), Due.allButTrace(Due.taped()));
        }
        HeldPaths x = Due.taped();
        // Shelf 0 holds path 3, a bog with STAY 5: leads x + 3 - 3, stays 2x - 5, shares ((x + 2) by 2) ^ 1.
        due("act(0, 0, 5)", x.act(0, 0, 5), 5);
        due("act(0, 1, 5)", x.act(0, 1, 5), 5);
        due("act(0, 2, 5)", x.act(0, 2, 5), 2);
        due("act(0, 3, 5)", x.act(0, 3, 5), 0);
        due("act(2, 0, 5)", x.act(2, 0, 5), 5);
        Due.same("five acts", Due.allButTrace(x), Due.allButTrace(Due.taped()));
        x.shelf(3, 0, 5);
        due("act(3, 0, 5)", x.act(3, 0, 5), 30);
    }

    /** Path n of kind path, with a STAY, on shelf 0. */
    private static HeldPaths sharer(int kind, int n, int stay) {
        HeldPaths x = Due.side(n, 0, 0);
        x.path(kind, 0, 1, stay, 0);
        x.shelf(0, 0, n);
        return x;
    }

    private static int cut(int x, int by) {
        long whole = Math.abs((long) x) / Math.abs(by);
        return (int) ((x < 0) != (by < 0) ? -whole : whole);
    }

    private static void sharing() {
        Due.about("40: shares: x by (a - n), the rest away; quotients are cut towards 0");
        for (int n = 0; n < 8; n++) {
            for (int a = 0; a <= 8; a++) {
                for (int x : new int[] {0, 1, -1, 7, -7, 8, -8, 100, -100, HIGH, LOW, LOW + 1}) {
                    int want = a == n ? -15 : cut(x, a - n);
                    due(x + " by " + a + " - " + n, sharer(0, n, a).act(0, 2, x), want);
                }
            }
        }
        due("7 by 2", sharer(0, 0, 2).act(0, 2, 7), 3);
        due("-7 by 2", sharer(0, 0, 2).act(0, 2, -7), -3);
        due("7 by -2", sharer(0, 2, 0).act(0, 2, 7), -3);
        due("-7 by -2", sharer(0, 2, 0).act(0, 2, -7), 3);
        due("the lowest int by -1 wraps", sharer(0, 1, 0).act(0, 2, LOW), LOW);
    }

    private static void dueTrace(HeldPaths x, int... bodies) {
        due("many(5)", x.many(5), bodies.length);
        for (int i = 0; i < bodies.length; i++) {
            due("trace(" + i + ")", x.trace(i), bodies[i]);
        }
        due("trace(" + bodies.length + ")", x.trace(bodies.length), NONE);
        due("trace(-1)", x.trace(-1), NONE);
    }

    private static void dueAct(String what, HeldPaths x, int act, int with, int want, int... bodies) {
        due(what, x.act(0, act, with), want);
        dueTrace(x, bodies);
    }

    private static void partedByZero() {
        Due.about("40: -15 if these are the same; that is all that act() answers then");
        for (int n = 0; n < 8; n++) {
            dueAct("path " + n, sharer(0, n, n), 2, 5, -15, 12);
            dueAct("track " + n, sharer(1, n, n), 2, 5, -15, 12);
            dueAct("wall " + n, sharer(2, n, n), 2, 5, -15, 12);
            dueAct("wall " + n + ", tells", sharer(2, n, n), 3, 5, -15, 31, 13, 11, 30, 10, 12);
            dueAct("deer " + n, sharer(3, n, n), 2, 5, -15, 12);
            dueAct("bog " + n, sharer(4, n, n), 2, 5, -15, 50, 12);
            dueAct("ride " + n, sharer(5, n, n), 2, 5, -15, 61, 12);
            for (int kind = 0; kind < 6; kind++) {
                HeldPaths x = sharer(kind, n, n);
                x.act(0, 2, 5);
                HeldPaths y = sharer(kind, n, n);
                Due.same("an act of -15", Due.allButTrace(x), Due.allButTrace(y));
                due("the next act is whole again", x.act(0, 0, 5), y.act(0, 0, 5));
                due("and has its TRACE", x.many(5), y.many(5));
            }
        }
        Due.about("40: where nothing is parted -15 is a number like any other");
        dueAct("leads", sharer(0, 3, 3), 0, -18, -15, 10);
        dueAct("stays of a track", sharer(1, 3, 3), 1, -9, -15, 20, 11, 10);
        dueAct("tells", sharer(0, 1, 1), 3, -9, -15, 13, 11, 10);
        Due.about("40: 1 on either side of the same");
        dueAct("wall 2 with STAY 1, tells", sharer(2, 2, 1), 3, 0, (12 ^ 1) - 2, 31, 13, 11, 30, 10, 12);
        dueAct("wall 2 with STAY 3, tells", sharer(2, 2, 3), 3, 0, (12 ^ 3) + 2, 31, 13, 11, 30, 10, 12);
        dueAct("ride 5 with STAY 4", sharer(5, 5, 4), 2, 7, -7 + 9, 61, 12, 10);
        dueAct("ride 5 with STAY 6", sharer(5, 5, 6), 2, 7, 7 + 11, 61, 12, 10);
        dueAct("bog 4 with STAY 3", sharer(4, 4, 3), 2, 7, -9 ^ 1, 50, 12);
        dueAct("bog 4 with STAY 5", sharer(4, 4, 5), 2, 7, 9 ^ 1, 50, 12);
    }

    private static void wrapping() {
        Due.about("40: ints that wrap");
        dueAct("leads", sharer(0, 1, 0), 0, HIGH, LOW, 10);
        dueAct("stays", sharer(0, 0, 1), 1, 1 << 30, LOW, 11, 10);
        dueAct("tells", sharer(0, 0, 8), 3, 1 << 30, LOW + 8, 13, 11, 10);
        dueAct("stays of a track", sharer(1, 1, 3), 1, (1 << 30) - 1, HIGH - 2, 20, 11, 10);
        dueAct("leads of a wall", sharer(2, 2, 0), 0, HIGH - 2, HIGH - 2, 30, 10);
        // (1789569706 * 3 - 2^32) * 2 is the highest int less 3; ^ 3 it is the highest; 2 by 1 more
        dueAct("tells of a wall", sharer(2, 2, 3), 3, 1789569704, LOW + 1, 31, 13, 11, 30, 10, 12);
        dueAct("leads of a deer", sharer(3, 3, 0), 0, HIGH - 2, LOW, 40, 10);
        // leads(x) is the lowest int, twice that 0; leads(3) is -6
        dueAct("stays of a deer", sharer(3, 3, 2), 1, HIGH - 2, -8, 41, 20, 11, 40, 10, 40, 10);
        // x + 2 is the lowest int and 1; by 2, cut, -1073741823; ^ 1
        dueAct("shares of a bog", sharer(4, 4, 6), 2, HIGH, -1073741824, 50, 12);
        dueAct("leads of a bog", sharer(4, 7, 6), 0, HIGH, HIGH, 51, 10);
        // leads 2^29, stays 2^30, ^ 2, twice
        dueAct("tells of a ride", sharer(5, 5, 2), 3, (1 << 29) - 5, LOW + 4, 60, 13, 11, 10);
        dueAct("shares of a ride", sharer(5, 5, 4), 2, LOW, LOW + 9, 61, 12, 10);
    }

    private static void tracing() {
        Due.about("41: THE TRACE's i-th body. NONE");
        // Shelf 2 of a full object holds path 2, a wall, of which stays ran: 11, 30, 10.
        Due.range("trace(i), of three", Due::full, (x, v) -> traceOrBad(x, v), 0, 11, 2, 10);
        Due.refused("trace(0), none", HeldPaths::new, x -> x.trace(0), NONE);
        Due.refused("trace(29)", Due::taped, x -> x.trace(29), NONE);
        Due.refused("trace(30)", Due::taped, x -> x.trace(30), NONE);
        Due.refused("trace(31)", Due::taped, x -> x.trace(31), NONE);
        Due.about("41: of the latest act(), the longest there is, then a shorter one");
        HeldPaths x = sharer(3, 1, 0);
        // leads -11, stays of a path -22, less 0; leads(1) -2
        dueAct("tells of a deer", x, 3, 10, -24, 13, 41, 20, 11, 40, 10, 40, 10);
        dueAct("leads of a deer", x, 0, 10, -11, 40, 10);
        due("trace(7)", x.trace(7), NONE);
        x.act(0, 9, 10);
        dueTrace(x);
    }

    /** So that a range of it can be tested like others, whose refusal is BAD. */
    private static int traceOrBad(HeldPaths x, int i) {
        int body = x.trace(i);
        return body == NONE ? BAD : body;
    }

    // ---- 42

    private static void counting() {
        Due.about("42: BAD: another what");
        Due.range("many(what)", Due::full, (x, v) -> x.many(v), 0, 8, 5, 3);
        Due.about("42: How many, at the most");
        int[] most = {8, 4, 4, 12, 240, 3};
        int[] some = {6, 3, 3, 5, 21, 5};
        for (int what = 0; what < 6; what++) {
            due("many(" + what + ")", Due.full().many(what), most[what]);
            due("many(" + what + ")", Due.taped().many(what), some[what]);
        }
    }

    // ---- 43, 44

    private static void keeping() {
        Due.about("43: All is kept: 1");
        due("keep()", new HeldPaths().keep(), 1);
        HeldPaths x = Due.taped();
        due("keep()", x.keep(), 1);
        Due.same("keep()", Due.all(x), Due.all(Due.taped()));
        x = Due.taped();
        x.keep();
        ruin(x);
        HeldPaths y = Due.taped();
        y.keep();
        Due.same("keep(), much, again()", Due.behindAgain(x), Due.behindAgain(y));
        x = Due.full();
        ruin(x);
        Due.same("much, again()", Due.behindAgain(x), Due.behindAgain(Due.full()));
    }

    /** Changes everything that keep() keeps. */
    private static void ruin(HeldPaths x) {
        Due.feed(x, "                  ");
        x.wood();
        Due.told(x, "deer 6 5 stay 1 come 2 gone;walker 6 pay 33;rain;weight 0 7;");
        x.rule(3, 3);
        x.walker(5, 44);
        x.path(5, 1, 6, 7, 7);
        x.night(11);
        x.seed(-99);
        x.rain(false);
        x.weigh(3, 4);
        x.weigh(6, 4);
        x.put(0, 1);
        x.on(0, 1);
    }

    private static void notKept() {
        Due.about("43: All but THE TAPE, ROWS, SHEETS, SHELVES, THE TRACE");
        HeldPaths x = Due.grown();
        x.keep();
        Due.feed(x, "walker 3;");
        x.prove(2);
        x.alterRow(1, 0, 777);
        x.sheet(0, 1, 2);
        x.write(0, 1, 55);
        x.sheet(1, -1, 0);
        x.shelf(0, 1, 0);
        x.shelf(1, 2, 0);
        x.shelf(3, 0, 5);
        x.act(3, 0, 1);
        for (int i = 0; i < 2; i++) {
            due("THE TAPE", x.many(4), 9);
            due("ROWS", x.many(3), 2);
            due("ROWS", x.row(1, 0), 777);
            due("SHEETS", x.item(0, 1, 1), 55);
            due("SHEETS", x.item(1, 3, 0), -11);
            due("SHELVES", x.taken(0, 11), 2);
            due("SHELVES", x.taken(1, 12), -11);
            due("SHELVES", x.taken(3, 2), 5);
            dueTrace(x, 30, 10);
            due("again() leaves them", x.again(), 6);
        }
        due("THE TAPE", x.wood(), 0);
        due("THE TAPE has told a WALKER", x.walkerOf(0, 0), 3);
    }

    private static void keptApart() {
        Due.about("44: what was kept latest (which stays)");
        HeldPaths x = Due.taped();
        x.keep();
        for (int i = 0; i < 3; i++) {
            due("again()", x.again(), 6);
            ruin(x);
        }
        HeldPaths y = Due.taped();
        y.keep();
        Due.same("three times again()", Due.behindAgain(x), Due.behindAgain(y));
        x = Due.side(1, 1, 1);
        x.keep();
        x.path(0, 0, 1, 2, 2);
        x.keep();
        x.path(0, 0, 1, 3, 3);
        due("the latest", x.again(), 2);
        due("the latest", x.pathOf(1, 3), 2);
        due("not one before", x.again(), 2);
        x.wood();
        x.keep();
        x.path(0, 0, 1, 3, 3);
        due("a wood without PATHS is kept, too", x.again(), 0);
        Due.about("44: z and the NIGHT come again: the same nights follow");
        x = Due.chain(8, 4, 4);
        x.night(3);
        x.keep();
        int behind = x.night(20);
        x.again();
        due("NIGHT", x.count(0), 3);
        due("night(20)", x.night(20), behind);
    }

    private static void comingAgain() {
        Due.about("44: NONE: nothing is kept");
        Due.refused("again()", HeldPaths::new, x -> x.again(), NONE);
        Due.refused("again()", () -> Due.chain(8, 4, 4), x -> x.again(), NONE);
        Due.about("44: how many PATHS");
        for (int n = 0; n <= 8; n++) {
            HeldPaths x = Due.side(n, 4, 4);
            x.keep();
            due("again()", x.again(), n);
            x.wood();
            due("again() behind wood()", x.again(), n);
            due("many(0)", x.many(0), n);
        }
    }

    // ---- What it is

    private static void manyCalls() {
        Due.about("An object is used for at most 512 calls");
        HeldPaths x = new HeldPaths();
        for (int i = 0; i < 511; i++) {
            x.night(20);
        }
        due("the 512th", x.count(0), 10220);
        x = Due.chain(8, 4, 4);
        for (int i = 0; i < 125; i++) {
            x.sheet(i % 4, i % 4, 40);
            x.shelf(i % 4, 1, i % 4);
            x.keep();
            x.again();
        }
        x.shelf(0, 0, 0);
        due("sheets and shelves: the 510th", x.act(0, 1, 4), 8);
        due("the 511th", x.taken(3, 13), 40);
        due("the 512th", x.within(0, 4, 2, 0), 1);
    }
}
