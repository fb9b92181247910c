import java.util.ArrayList;
import java.util.List;

/** What the tests of boundaries share: answers that are due, calls that are refused, ranges, and woods to try them on. */
final class Due {
    static final int LOW = Integer.MIN_VALUE, HIGH = Integer.MAX_VALUE;
    static final int BAD = -1, FULL = -2, NONE = -3, STATE = -4;

    interface Made { HeldPaths make(); }

    interface Call { long on(HeldPaths x); }

    interface CallWith { long on(HeldPaths x, int v); }

    private static int wrong;
    private static int asked;
    private static String sentence = "";

    private Due() { }

    /** The sentence of the document that the next answers are about. */
    static void about(String words) { sentence = words; }

    static void due(String call, long got, long want) {
        asked++;
        if (got != want) {
            wrong++;
            System.out.println(sentence + ": " + call + " answered " + got + ", due is " + want);
        }
    }

    static void end() {
        System.out.println(wrong == 0 ? asked + " answers at boundaries are as due" : wrong + " answers are not as due");
        if (wrong != 0) {
            System.exit(1);
        }
    }

    // ---- refused calls

    /** The call answers so, and behind it nothing can be seen that is not as if there had been no such call. */
    static void refused(String call, Made made, Call c, long want) {
        HeldPaths x = made.make();
        due(call, c.on(x), want);
        same(call, all(x), all(made.make()));
        same(call + ", then wood()", behindTape(called(made, c)), behindTape(made.make()));
        same(call + ", then again()", behindAgain(called(made, c)), behindAgain(made.make()));
    }

    private static HeldPaths called(Made made, Call c) {
        HeldPaths x = made.make();
        c.on(x);
        return x;
    }

    /** A number that may be low to high: both ends are taken; what lies beyond is BAD, and changes nothing. */
    static void range(String call, Made made, CallWith c, int low, long dueLow, int high, long dueHigh) {
        due(call + " with " + low, c.on(made.make(), low), dueLow);
        due(call + " with " + high, c.on(made.make(), high), dueHigh);
        outside(call, made, c, low, high, BAD);
    }

    static void outside(String call, Made made, CallWith c, int low, int high, long want) {
        int[] beyond = {low - 1, high + 1, LOW, HIGH, LOW + low, LOW + high, low + 256, low + (1 << 16), high - 256};
        for (int v : beyond) {
            refused(call + " with " + v, made, x -> c.on(x, v), want);
        }
    }

    // ---- what can be seen

    static void same(String call, List<String> got, List<String> want) {
        asked++;
        for (int i = 0; i < want.size(); i++) {
            if (i >= got.size() || !got.get(i).equals(want.get(i))) {
                wrong++;
                String is = i < got.size() ? got.get(i) : "nothing";
                System.out.println(sentence + ": behind " + call + " there is " + is + ", due is " + want.get(i));
                return;
            }
        }
    }

    /** All but what stands on THE TAPE and what is kept; fewer than 400 calls. */
    static List<String> all(HeldPaths x) {
        List<String> seen = new ArrayList<>();
        seeWood(x, seen);
        seeRest(x, seen);
        return seen;
    }

    /** What act() may not change. */
    static List<String> allButTrace(HeldPaths x) {
        List<String> seen = all(x);
        seen.removeIf(line -> line.startsWith("trace(") || line.startsWith("many(5)"));
        return seen;
    }

    private static List<String> behindTape(HeldPaths x) {
        List<String> seen = new ArrayList<>();
        seen.add("wood() " + x.wood());
        seeWood(x, seen);
        return seen;
    }

    static List<String> behindAgain(HeldPaths x) {
        List<String> seen = new ArrayList<>();
        seen.add("again() " + x.again());
        seeWood(x, seen);
        return seen;
    }

    /** All that keep() keeps. */
    static void seeWood(HeldPaths x, List<String> seen) {
        for (int what = 0; what < 3; what++) {
            seen.add("many(" + what + ") " + x.many(what));
        }
        for (int what = 0; what < 5; what++) {
            seen.add("count(" + what + ") " + x.count(what));
        }
        for (int p = 0; p < 8; p++) {
            for (int what = 0; what < 9; what++) {
                seen.add("pathOf(" + p + ", " + what + ") " + x.pathOf(p, what));
            }
        }
        for (int i = 0; i < 4; i++) {
            for (int what = 0; what < 3; what++) {
                seen.add("walkerOf(" + i + ", " + what + ") " + x.walkerOf(i, what));
            }
            for (int what = 0; what < 2; what++) {
                seen.add("ruleOf(" + i + ", " + what + ") " + x.ruleOf(i, what));
            }
        }
        for (int c = 0; c < 8; c++) {
            int was = x.weigh(c, 0);
            x.weigh(c, was);
            seen.add("WEIGHT of " + c + " " + was);
        }
        boolean wet = x.rain(true) == 0;
        x.rain(wet);
        seen.add("RAIN " + wet);
        int z = x.seed(0);
        x.seed(z);
        seen.add("z " + z);
    }

    /** What keep() does not keep, but what stands on THE TAPE. */
    private static void seeRest(HeldPaths x, List<String> seen) {
        for (int what = 3; what < 6; what++) {
            seen.add("many(" + what + ") " + x.many(what));
        }
        for (int i = 0; i < 12; i++) {
            seen.add("row(" + i + ", 0) " + x.row(i, 0));
            seen.add("row(" + i + ", 1) " + x.row(i, 1));
        }
        for (int i = 0; i < 30; i++) {
            seen.add("trace(" + i + ") " + x.trace(i));
        }
        for (int s = 0; s < 4; s++) {
            for (int sort = 0; sort < 4; sort++) {
                // 40 is outside of every row: -12 tells the sort, -11 that the SHEET is missing.
                int is = x.item(s, sort, 40);
                seen.add("item(" + s + ", " + sort + ", 40) " + is);
                for (int i = 0; i < 40 && is == -12; i++) {
                    seen.add("item(" + s + ", " + sort + ", " + i + ") " + x.item(s, sort, i));
                }
            }
            for (int as : new int[] {0, 1, 2, 3, 4, 5, 10, 11, 12, 13}) {
                seen.add("taken(" + s + ", " + as + ") " + x.taken(s, as));
            }
        }
    }

    // ---- woods

    static void feed(HeldPaths x, String text) {
        for (int i = 0; i < text.length(); i += 8) {
            int n = Math.min(8, text.length() - i);
            long eight = 0;
            for (int j = n - 1; j >= 0; j--) {
                eight = eight << 8 | text.charAt(i + j);
            }
            x.feed(eight, n);
        }
    }

    static int told(HeldPaths x, String text) {
        feed(x, text);
        return x.wood();
    }

    /** Paths 0-1, 1-2, .. of kind path, with the same chances, all there. */
    static HeldPaths chain(int paths, int stay, int come) {
        HeldPaths x = new HeldPaths();
        for (int i = 0; i < paths; i++) {
            x.path(0, i, (i + 1) % 8, stay, come);
        }
        return x;
    }

    /** Paths that all lead from 0 to 1. */
    static HeldPaths side(int paths, int stay, int come) {
        HeldPaths x = new HeldPaths();
        for (int i = 0; i < paths; i++) {
            x.path(0, 0, 1, stay, come);
        }
        return x;
    }

    static void close(HeldPaths x, int... paths) {
        for (int p : paths) {
            x.open(p, false);
        }
    }

    /**
     * Six paths (4 is not there), three walkers (0 in 0, 1 ON path 1, 2 in 7), three rules, rain, weights, five rows,
     * a sheet of three ints, one of 40 longs, one of no bytes, one missing; shelves with path 3, the ints, path 0,
     * nothing; a trace; another wood is kept. Nothing stands on the tape.
     */
    static HeldPaths grown() {
        HeldPaths x = new HeldPaths();
        x.path(0, 6, 7, 1, 1);
        x.walker(6, 60);
        x.rule(3, 6);
        x.weigh(1, 5);
        x.seed(9);
        x.keep();
        x.wood();
        x.night(3);
        x.path(0, 0, 1, 4, 4);
        x.path(1, 1, 2, 3, 2);
        x.path(5, 2, 3, 1, 1);
        x.path(4, 3, 4, 5, 6);
        x.path(3, 4, 0, 0, 8);
        x.path(2, 0, 5, 2, 3);
        x.open(4, false);
        x.walker(0, 9);
        x.walker(1, 99);
        x.walker(7, 0);
        x.on(1, 1);
        x.rule(0, 3);
        x.rule(1, 2);
        x.rain(true);
        x.weigh(3, 9);
        x.weigh(6, 0);
        x.seed(77);
        x.prove(5);
        x.alterRow(2, 1, -7);
        x.sheet(0, 2, 3);
        x.write(0, 0, 1);
        x.write(0, 1, 9);
        x.write(0, 2, -4);
        x.sheet(1, 3, 40);
        x.write(1, 39, -5);
        x.sheet(2, 0, 0);
        x.shelf(0, 0, 3);
        x.shelf(1, 1, 0);
        x.shelf(2, 0, 0);
        x.act(0, 3, 5);
        return x;
    }

    /** The same, and 21 bytes on the tape. */
    static HeldPaths taped() {
        HeldPaths x = grown();
        feed(x, "rain;walker 7 pay 77;");
        return x;
    }

    /** As many of each thing as there may be; it is kept, too. */
    static HeldPaths full() {
        HeldPaths x = new HeldPaths();
        for (int i = 0; i < 8; i++) {
            x.path(i % 6, i, (i + 1) % 8, i, 8 - i);
        }
        for (int i = 0; i < 4; i++) {
            x.walker(i, 90 + i);
            x.rule(i, 7 - i);
            x.sheet(i, i, 40);
            x.write(i, 39, 1000 * i);
            x.shelf(i, i % 2, i);
        }
        x.on(3, 3);
        x.keep();
        x.prove(12);
        x.act(2, 1, 1);
        feed(x, "weight 7 9;" + " ".repeat(229));
        return x;
    }
}
