/** Promises 26 to 34, rules and rows: each sentence that names a boundary, at it and on both of its sides. */
public final class RulesBoundariesTest {
    private static final int LOW = Due.LOW, HIGH = Due.HIGH, BAD = Due.BAD, FULL = Due.FULL;
    private static final int STRAIGHT = 0, HOLD = 1, BACK = 2, WAIT = 3;

    private static void due(String call, long got, long want) { Due.due(call, got, want); }

    public static void main(String[] args) {
        rules();
        rulesTold();
        doesAndGoesInRange();
        straight();
        hold();
        waiting();
        backAtTheLine();
        backFarthest();
        backWithout();
        staying();
        proving();
        provenRows();
        rowsTold();
        rowsAltered();
        judging();
        judgingFromNowOn();
        layingRefused();
        layingHeld();
        Due.end();
    }

    // ---- 26, 27

    private static void rules() {
        Due.about("26: kind 0 to 3, A (a CLEARING 0 to 7)");
        Due.range("rule(kind, 1)", Due::taped, (x, v) -> x.rule(v, 1), 0, 3, 3, 3);
        Due.range("rule(1, a)", Due::taped, (x, v) -> x.rule(1, v), 0, 3, 7, 3);
        Due.about("26: RULES, 4 at most, numbered as they come");
        HeldPaths x = new HeldPaths();
        for (int r = 0; r < 4; r++) {
            due("rule()", x.rule(3 - r, 7 - r), r);
            due("many(2)", x.many(2), r + 1);
        }
        for (int r = 0; r < 4; r++) {
            due("KIND of " + r, x.ruleOf(r, 0), 3 - r);
            due("A of " + r, x.ruleOf(r, 1), 7 - r);
        }
        Due.refused("rule(), the fifth", Due::full, y -> y.rule(0, 0), FULL);
        Due.about("26: of several the first named: BAD, then FULL");
        Due.outside("rule(kind, 1)", Due::full, (y, v) -> y.rule(v, 1), 0, 3, BAD);
        Due.outside("rule(1, a)", Due::full, (y, v) -> y.rule(1, v), 0, 7, BAD);
        Due.about("26: wood() leaves them, so there is no more room behind it");
        x.wood();
        due("rule()", x.rule(0, 0), FULL);
    }

    private static void rulesTold() {
        Due.about("27: BAD: there is no such RULE, or another what");
        Due.range("ruleOf(rule, 1)", Due::taped, (x, v) -> x.ruleOf(v, 1), 0, 6, 2, 2);
        Due.range("ruleOf(rule, 1)", Due::full, (x, v) -> x.ruleOf(v, 1), 0, 7, 3, 4);
        Due.range("ruleOf(0, what)", Due::taped, (x, v) -> x.ruleOf(0, v), 0, 3, 1, 6);
        Due.refused("ruleOf(0, 0)", HeldPaths::new, x -> x.ruleOf(0, 0), BAD);
        Due.refused("ruleOf(0, 1)", HeldPaths::new, x -> x.ruleOf(0, 1), BAD);
    }

    // ---- 28, 29

    /** Four walkers in 0, paths 0-1, 1-2, 2-3, and four rules of a kind for 3. */
    private static HeldPaths ruled(int kind) {
        HeldPaths x = Due.chain(3, 8, 0);
        for (int i = 0; i < 4; i++) {
            x.walker(0, 0);
            x.rule(kind, 3);
        }
        return x;
    }

    private static HeldPaths straightRules() { return ruled(STRAIGHT); }

    private static void doesAndGoesInRange() {
        Due.about("28: BAD: there is no such RULE, WALKER");
        Due.range("does(rule, 0)", RulesBoundariesTest::straightRules, (x, v) -> x.does(v, 0), 0, 1, 3, 1);
        Due.range("does(0, walker)", RulesBoundariesTest::straightRules, (x, v) -> x.does(0, v), 0, 1, 3, 1);
        Due.outside("does(rule, 0)", Due::taped, (x, v) -> x.does(v, 0), 0, 2, BAD);
        Due.outside("does(0, walker)", Due::taped, (x, v) -> x.does(0, v), 0, 2, BAD);
        Due.refused("does(0, 0)", HeldPaths::new, x -> x.does(0, 0), BAD);
        Due.about("29: BAD: there is no such RULE, WALKER");
        Due.range("goes(rule, 0)", RulesBoundariesTest::straightRules, (x, v) -> x.goes(v, 0), 0, 0, 3, 0);
        Due.range("goes(0, walker)", RulesBoundariesTest::straightRules, (x, v) -> x.goes(0, v), 0, 0, 3, 0);
        Due.outside("goes(rule, 0)", Due::taped, (x, v) -> x.goes(v, 0), 0, 2, BAD);
        Due.outside("goes(0, walker)", Due::taped, (x, v) -> x.goes(0, v), 0, 2, BAD);
        Due.refused("goes(0, 0)", HeldPaths::new, x -> x.goes(0, 0), BAD);
        Due.about("29: he would go: nothing changes");
        for (int k = 0; k < 4; k++) {
            int kind = k;
            Due.refused("goes(3, 0)", () -> ruled(kind), x -> x.goes(3, 0), kind < 2 ? 0 : -9);
        }
    }

    /** Puts walker 0 somewhere and asks what he would do by rule 0; then he does it, and must be where that leads. */
    private static void dueStep(String what, HeldPaths x, int from, int path, int then) {
        x.put(0, from);
        due(what + ": goes", x.goes(0, 0), path);
        due(what + ": does", x.does(0, 0), path == -9 ? 0 : 1);
        boolean on = x.ruleOf(0, 0) == HOLD && path != -9;
        due(what + ": in", x.walkerOf(0, 0), on ? -9 : then);
        due(what + ": ON", x.walkerOf(0, 1), on ? path : -9);
    }

    private static HeldPaths byRule(HeldPaths x, int kind, int a) {
        x.rule(kind, a);
        x.walker(0, 0);
        return x;
    }

    private static void straight() {
        Due.about("29: straight: along the first PATH (by numbers) of a shortest WAY to A");
        HeldPaths x = byRule(Due.chain(8, 8, 0), STRAIGHT, 0);
        int[] path = {-9, 0, 1, 2, 3, 5, 6, 7};
        int[] then = {0, 0, 1, 2, 3, 6, 7, 0};
        for (int c = 0; c < 8; c++) {
            dueStep("round, from " + c, x, c, path[c], then[c]);
        }
        x = byRule(Due.side(8, 0, 0), STRAIGHT, 1);
        for (int p = 0; p < 8; p++) {
            dueStep("the first of those that are there", x, 0, p, 1);
            x.open(p, false);
        }
        dueStep("none is there", x, 0, -9, 0);
        Due.about("29: a lower number that is on no shortest WAY does not count");
        x = new HeldPaths();
        x.path(0, 0, 1, 8, 0);
        x.path(0, 1, 2, 8, 0);
        x.path(0, 2, 3, 8, 0);
        x.path(0, 3, 0, 8, 0);
        byRule(x, STRAIGHT, 3);
        dueStep("by path 3", x, 0, 3, 3);
        x.open(3, false);
        dueStep("without it by path 0", x, 0, 0, 1);
    }

    private static void hold() {
        Due.about("29: hold: comes ON that PATH instead; who is ON one stays");
        HeldPaths x = byRule(Due.chain(8, 8, 0), HOLD, 0);
        int[] path = {-9, 0, 1, 2, 3, 5, 6, 7};
        for (int c = 0; c < 8; c++) {
            dueStep("round, from " + c, x, c, path[c], c);
            if (c > 0) {
                due("he stays ON it", x.goes(0, 0), -9);
                due("he stays ON it", x.does(0, 0), 0);
                due("he stays ON it", x.walkerOf(0, 1), path[c]);
            }
        }
    }

    private static void waiting() {
        Due.about("29: wait: as straight, if the WAY to A is of one PATH; else he stays");
        HeldPaths x = byRule(Due.chain(4, 8, 0), WAIT, 2);
        dueStep("two PATHS away", x, 0, -9, 0);
        dueStep("one PATH away", x, 1, 1, 2);
        dueStep("there already", x, 2, -9, 2);
        dueStep("one PATH away", x, 3, 2, 2);
        dueStep("two PATHS away", x, 4, -9, 4);
        dueStep("without a WAY", x, 7, -9, 7);
        x.path(0, 0, 2, 8, 0);
        dueStep("one PATH away now", x, 0, 4, 2);
        x.open(4, false);
        dueStep("it isn't there", x, 0, -9, 0);
    }

    private static void backAtTheLine() {
        Due.about("29: back: ODDS of a WAY to A are 4 by 8 or more");
        for (int stay = 0; stay <= 8; stay++) {
            HeldPaths x = byRule(Due.side(1, stay, 0), BACK, 0);
            dueStep("from A, STAY " + stay, x, 0, stay >= 4 ? 0 : -9, stay >= 4 ? 1 : 0);
            dueStep("from 1, STAY " + stay, x, 1, stay >= 4 ? -9 : 0, stay >= 4 ? 1 : 0);
        }
        HeldPaths x = Due.side(7, 7, 0);
        x.path(0, 1, 2, 4, 0);
        byRule(x, BACK, 0);
        dueStep("2 by a hair less than 4 by 8: to 1", x, 0, 0, 1);
        dueStep("2 by a hair less than 4 by 8: from 2 to 1", x, 2, 7, 1);
        dueStep("he is in 1", x, 1, -9, 1);
        x.walker(0, 0);
        x.on(1, 6);
        dueStep("2 by 4 by 8 now", x, 1, 7, 2);
        Due.about("29: back: ODDS from there to A, not from where he is");
        x = Due.chain(3, 8, 0);
        x.path(0, 3, 4, 0, 0);
        byRule(x, BACK, 0);
        dueStep("from 4, which is cut off over night, to 3", x, 4, 3, 3);
    }

    private static void backFarthest() {
        Due.about("29: back: the one that is farthest from A (by shortest WAYS), of several the least");
        HeldPaths x = byRule(Due.chain(7, 8, 0), BACK, 0);
        for (int c = 0; c < 7; c++) {
            dueStep("to 7, from " + c, x, c, c, c + 1);
        }
        dueStep("in 7", x, 7, -9, 7);
        x.path(0, 7, 0, 8, 0);
        dueStep("round: to 4 from 0, by the first PATH", x, 0, 0, 1);
        dueStep("round: to 4 from 5", x, 5, 4, 4);
        dueStep("round: in 4", x, 4, -9, 4);
        x = new HeldPaths();
        x.path(0, 0, 5, 8, 0);
        x.path(0, 0, 3, 8, 0);
        x.path(0, 0, 6, 8, 0);
        byRule(x, BACK, 0);
        dueStep("3 is the least of those as far", x, 0, 1, 3);
        dueStep("from 6 to 3", x, 6, 2, 0);
        dueStep("from 5 to 3", x, 5, 0, 0);
        dueStep("in 3", x, 3, -9, 3);
        x.open(1, false);
        dueStep("without 3 it is 5", x, 0, 0, 5);
        Due.about("29: back: to which A has a WAY now");
        x.path(0, 5, 7, 8, 8);
        x.open(3, false);
        dueStep("7 comes for sure, but has no WAY now", x, 5, -9, 5);
        x.open(3, true);
        dueStep("7 has one", x, 5, 3, 7);
    }

    private static void backWithout() {
        Due.about("29: back: without such a CLEARING he stays");
        HeldPaths x = byRule(Due.chain(3, 8, 8), BACK, 7);
        dueStep("no WAY to A: from 0", x, 0, -9, 0);
        dueStep("in A, alone", x, 7, -9, 7);
        x.path(0, 3, 7, 0, 0);
        dueStep("A alone is such a one: from 0", x, 0, 0, 1);
        dueStep("A alone is such a one: from 3", x, 3, 3, 7);
        dueStep("A alone is such a one: in A", x, 7, -9, 7);
        x.open(3, false);
        dueStep("cut off from A", x, 3, -9, 3);
    }

    private static void staying() {
        Due.about("28: Without a WAY, or where he would go already, or ON a PATH, he stays");
        for (int kind = 0; kind < 4; kind++) {
            HeldPaths x = byRule(Due.side(1, 8, 0), kind, 1);
            dueStep("KIND " + kind + ", without a WAY", x, 5, -9, 5);
            x.put(0, 0);
            x.on(0, 0);
            due("KIND " + kind + ", ON a PATH: goes", x.goes(0, 0), -9);
            due("KIND " + kind + ", ON a PATH: does", x.does(0, 0), 0);
            due("KIND " + kind + ", ON it still", x.walkerOf(0, 1), 0);
            dueStep("KIND " + kind + ", there already", x, kind == BACK ? 0 : 1, -9, kind == BACK ? 0 : 1);
        }
    }

    // ---- 30 to 33

    private static void proving() {
        Due.about("30: ROWS by n (1 to 12): how many");
        Due.range("prove(n)", Due::taped, (x, v) -> x.prove(v), 1, 1, 12, 12);
        Due.range("prove(n)", HeldPaths::new, (x, v) -> x.prove(v), 1, 1, 12, 12);
        Due.outside("prove(n)", Due::full, (x, v) -> x.prove(v), 1, 12, BAD);
        Due.about("30: ROWS are those proved latest");
        HeldPaths x = Due.side(1, 8, 0);
        for (int n : new int[] {12, 1, 5, 2}) {
            due("prove(" + n + ")", x.prove(n), n);
            due("many(3)", x.many(3), n);
            due("the last", x.row(n - 1, 0), 1);
            due("behind the last", x.row(n, 0), -9);
        }
        Due.about("30: nothing changes");
        HeldPaths y = Due.taped();
        HeldPaths same = Due.taped();
        same.prove(12);
        y.prove(12);
        y.prove(12);
        Due.same("prove(12) twice", Due.all(y), Due.all(same));
        due("z", y.seed(0), 77);
        due("NIGHT", y.count(0), 3);
    }

    private static void provenRows() {
        Due.about("30: (PATHS as a set, how many CLEARINGS have a WAY to CLEARING 0, it too) behind each NIGHT");
        HeldPaths x = new HeldPaths();
        x.prove(12);
        for (int i = 0; i < 12; i++) {
            due("without a PATH", x.row(i, 0), 0);
            due("CLEARING 0 alone", x.row(i, 1), 1);
        }
        x = Due.chain(7, 8, 0);
        x.prove(12);
        due("all PATHS", x.row(11, 0), 127);
        due("all CLEARINGS", x.row(11, 1), 8);
        x = Due.chain(8, 4, 4);
        x.walker(2, 0);
        x.on(0, 1);
        x.prove(12);
        for (int i = 0; i < 12; i++) {
            due("row(" + i + ", 0)", x.row(i, 0), x.night(1));
            due("row(" + i + ", 1)", x.row(i, 1), Integer.bitCount(x.reach(0)));
        }
    }

    private static void rowsTold() {
        Due.about("31: -9: there is none such, another what");
        for (int what = 0; what < 2; what++) {
            int w = what;
            Due.outside("row(i, " + w + "), five", Due::taped, (x, v) -> x.row(v, w), 0, 4, -9);
            Due.outside("row(i, " + w + "), twelve", Due::full, (x, v) -> x.row(v, w), 0, 11, -9);
            Due.refused("row(0, " + w + "), none", HeldPaths::new, x -> x.row(0, w), -9);
        }
        Due.outside("row(0, what)", Due::taped, (x, v) -> x.row(0, v), 0, 1, -9);
        Due.outside("row(4, what)", Due::taped, (x, v) -> x.row(4, v), 0, 1, -9);
        HeldPaths x = Due.side(2, 8, 0);
        x.prove(5);
        due("row(0, 0)", x.row(0, 0), 3);
        due("row(4, 1)", x.row(4, 1), 2);
        x.wood();
        due("no ROWS behind wood()", x.row(0, 0), -9);
    }

    private static void rowsAltered() {
        Due.about("32: -9 likewise");
        for (int what = 0; what < 2; what++) {
            int w = what;
            Due.outside("alterRow(i, " + w + ", 5)", Due::taped, (x, v) -> x.alterRow(v, w, 5), 0, 4, -9);
            Due.refused("alterRow(0, " + w + ", 5), none", HeldPaths::new, x -> x.alterRow(0, w, 5), -9);
            Due.outside("alterRow(i, " + w + ", 5)", Due::full, (x, v) -> x.alterRow(v, w, 5), 0, 11, -9);
        }
        Due.outside("alterRow(0, what, 5)", Due::taped, (x, v) -> x.alterRow(0, v, 5), 0, 1, -9);
        Due.about("32: It becomes v: what it was");
        HeldPaths x = Due.side(2, 8, 0);
        x.prove(12);
        for (int i = 0; i < 12; i += 11) {
            int[] was = {3, 2};
            for (int v : new int[] {LOW, HIGH, -9, 0, -1, 255}) {
                for (int what = 0; what < 2; what++) {
                    due("alterRow(" + i + ", " + what + ", " + v + ")", x.alterRow(i, what, v), was[what]);
                    due("row(" + i + ", " + what + ")", x.row(i, what), v);
                    was[what] = v;
                }
            }
        }
        for (int i = 1; i < 11; i++) {
            due("others are as they were", x.row(i, 0), 3);
            due("others are as they were", x.row(i, 1), 2);
        }
        due("the wood is as it was", x.count(1), 3);
    }

    private static void judging() {
        Due.about("33: 0 all is right (also if there are none)");
        due("a new object", new HeldPaths().judge(), 0);
        HeldPaths none = Due.taped();
        none.wood();
        due("behind wood()", none.judge(), 0);
        for (int n = 1; n <= 12; n++) {
            HeldPaths x = Due.chain(8, 4, 4);
            x.prove(n);
            due("judge() of " + n, x.judge(), 0);
        }
        Due.about("33: else the first ROW that isn't, and 1 more");
        for (int i = 0; i < 12; i++) {
            for (int what = 0; what < 2; what++) {
                for (int by : new int[] {1, -1, 256, 1 << 16, LOW}) {
                    HeldPaths x = Due.chain(8, 4, 4);
                    x.prove(12);
                    int was = x.row(i, what);
                    x.alterRow(i, what, was + by);
                    due("ROW " + i + " altered", x.judge(), i + 1);
                    if (i < 11) {
                        x.alterRow(i + 1, 1 - what, -5);
                        due("ROW " + i + " and the next altered", x.judge(), i + 1);
                        x.alterRow(i, what, was);
                        due("the next altered", x.judge(), i + 2);
                    } else {
                        x.alterRow(i, what, was);
                        due("as it was", x.judge(), 0);
                    }
                }
            }
        }
        Due.refused("judge(), the third", Due::taped, x -> x.judge(), 3);
    }

    private static void judgingFromNowOn() {
        Due.about("33: THE READER takes ROWS as those from now on");
        HeldPaths x = Due.side(1, 8, 0);
        x.prove(12);
        due("judge()", x.judge(), 0);
        x.night(3);
        due("three nights later it is the same", x.judge(), 0);
        x.open(0, false);
        due("it isn't there", x.judge(), 1);
        x.open(0, true);
        due("it is again", x.judge(), 0);
        x.path(0, 1, 2, 8, 0);
        due("another one is there", x.judge(), 1);
        x = Due.chain(8, 4, 4);
        x.prove(12);
        x.seed(2);
        due("by another z", x.judge() > 0 ? 1 : 0, 1);
        x.seed(1);
        due("by the same z", x.judge(), 0);
        x.keep();
        x.night(20);
        x.again();
        due("ROWS stay when a kept wood comes again", x.judge(), 0);
    }

    // ---- 34

    private static void layingRefused() {
        Due.about("34: BAD; -11; -13");
        Due.outside("lays(sheet)", Due::taped, (x, v) -> x.lays(v), 0, 3, BAD);
        Due.refused("lays(3), missing", Due::taped, x -> x.lays(3), -11);
        Due.refused("lays(2), no bytes", Due::taped, x -> x.lays(2), -13);
        Due.refused("lays(1), longs", Due::taped, x -> x.lays(1), -13);
        Due.refused("lays(0), bytes", Due::full, x -> x.lays(0), -13);
        Due.refused("lays(1), shorts", Due::full, x -> x.lays(1), -13);
        Due.refused("lays(3), longs", Due::full, x -> x.lays(3), -13);
        due("lays(2), ints", Due.full().lays(2), 8);
        due("lays(0), ints", Due.taped().lays(0), 3);
    }

    private static void layingHeld() {
        Due.about("34: item k is STAY of PATH k (held to 0 to 8)");
        int[] items = {LOW, -1, 0, 1, 7, 8, 9, HIGH};
        int[] stays = {0, 0, 0, 1, 7, 8, 8, 8};
        HeldPaths x = Due.side(8, 5, 5);
        x.sheet(3, 2, 8);
        for (int i = 0; i < 8; i++) {
            x.write(3, i, items[i]);
        }
        due("lays(3)", x.lays(3), 8);
        for (int p = 0; p < 8; p++) {
            due("STAY of " + p, x.pathOf(p, 3), stays[p]);
            due("COME of " + p, x.pathOf(p, 4), 5);
            due("the SHEET is as it was", x.item(3, 2, p), items[p]);
        }
        Due.about("34: as far as both go: how many");
        for (int paths = 0; paths <= 8; paths++) {
            for (int n : new int[] {0, 1, 7, 8, 9, 40}) {
                x = Due.side(paths, 5, 5);
                x.sheet(0, 2, n);
                int both = Math.min(paths, n);
                due(paths + " paths, " + n + " items", x.lays(0), both);
                for (int p = 0; p < paths; p++) {
                    due("STAY of " + p, x.pathOf(p, 3), p < both ? 0 : 5);
                }
            }
        }
        Due.about("34: a PATH on which one is, or that isn't there, has a STAY, too");
        x = Due.side(2, 5, 5);
        x.walker(0, 0);
        x.on(0, 0);
        x.open(1, false);
        x.sheet(0, 2, 2);
        due("lays(0)", x.lays(0), 2);
        due("STAY of 0", x.pathOf(0, 3), 0);
        due("STAY of 1", x.pathOf(1, 3), 0);
        due("there", x.count(1), 1);
    }
}
