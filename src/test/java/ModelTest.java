import java.util.Random;

/** Long runs of calls, the same on HeldPaths and on the Model: every answer and all that can be seen must agree. */
public final class ModelTest {
    private static final int RUNS = 400, CALLS = 512;
    private static int wrong;
    private static StringBuilder told;
    private static Random random;

    private static int upTo(int n) { return random.nextInt(n + 1); }

    /** Mostly a number from 0 to n, now and then one outside. */
    private static int near(int n) {
        int dice = random.nextInt(40);
        if (dice == 0) return -1;
        if (dice == 1) return n + 1;
        if (dice == 2) return random.nextBoolean() ? Integer.MIN_VALUE : Integer.MAX_VALUE;
        return upTo(n);
    }

    private static int any() {
        return random.nextBoolean() ? random.nextInt() : random.nextInt(61) - 20;
    }

    private static void due(String call, long got, long want) {
        told.append(call).append(" -> ").append(got).append('\n');
        if (got != want) {
            wrong++;
            if (wrong < 4) System.out.println(told + "the last is due to answer " + want);
        }
    }

    public static void main(String[] args) {
        for (int run = 0; run < RUNS && wrong == 0; run++) {
            random = new Random(run);
            told = new StringBuilder("run " + run + '\n');
            HeldPaths x = new HeldPaths();
            Model m = new Model();
            if (random.nextInt(3) > 0) plant(x, m);
            for (int i = 0; i < CALLS && wrong == 0; i++) oneCall(x, m);
            if (wrong == 0) compareAll(x, m);
        }
        System.out.println(wrong == 0 ? "HeldPaths and the Model agree" : "HeldPaths and the Model differ");
        if (wrong != 0) System.exit(1);
    }

    private static void plant(HeldPaths x, Model m) {
        for (int i = upTo(8); i > 0; i--) path(x, m);
        for (int i = upTo(4); i > 0; i--) walker(x, m);
        for (int i = upTo(4); i > 0; i--) rule(x, m);
    }

    private static void path(HeldPaths x, Model m) {
        int clearings = random.nextBoolean() ? 7 : 3;
        int k = near(5), a = near(clearings), b = near(clearings), s = near(8), c = near(8);
        due("path " + k + " " + a + " " + b + " " + s + " " + c, x.path(k, a, b, s, c), m.path(k, a, b, s, c));
    }

    private static void walker(HeldPaths x, Model m) {
        int c = near(7), p = near(99);
        due("walker " + c + " " + p, x.walker(c, p), m.walker(c, p));
    }

    private static void rule(HeldPaths x, Model m) {
        int k = near(3), a = near(7);
        due("rule " + k + " " + a, x.rule(k, a), m.rule(k, a));
    }

    private static void feed(HeldPaths x, Model m, String text) {
        for (int i = 0; i < text.length(); i += 8) {
            int n = Math.min(8, text.length() - i);
            long eight = 0;
            for (int j = n - 1; j >= 0; j--) eight = eight << 8 | text.charAt(i + j) & 255;
            if (n < 8) eight |= random.nextLong() << 8 * n;
            due("feed " + text.substring(i, i + n), x.feed(eight, n), m.feed(eight, n));
        }
    }

    private static String number(int n) {
        int v = near(n);
        if (v < 0) v = 0;
        return random.nextInt(12) == 0 ? "0" + v : "" + v;
    }

    private static String blanks() { return " ".repeat(random.nextInt(8) == 0 ? upTo(3) : 1); }

    private static String thing() {
        int dice = random.nextInt(8);
        String c = number(7) + blanks();
        if (dice < 5) {
            String kind = Model.KIND_NAMES[upTo(5)];
            return kind + blanks() + c + number(7) + blanks() + "stay" + blanks() + number(8) + blanks() + "come"
                + blanks() + number(8) + (random.nextInt(3) == 0 ? blanks() + "gone" : "") + ";";
        }
        if (dice == 5) return "walker" + blanks() + c + (random.nextBoolean() ? "pay" + blanks() + number(99) : "") + ";";
        if (dice == 6) return "weight" + blanks() + c + number(9) + ";";
        return "rain" + (random.nextBoolean() ? blanks() : "") + ";";
    }

    private static String text() {
        StringBuilder s = new StringBuilder();
        for (int i = upTo(11); i > 0; i--) {
            s.append(thing());
            if (random.nextInt(3) == 0) s.append(blanks());
        }
        if (s.length() > 240 && random.nextInt(3) > 0) s.setLength(s.lastIndexOf(";", 239) + 1);
        String signs = "; 0189azAZ{\t\u0000\u00ff`/:gone";
        if (s.length() > 0 && random.nextInt(3) == 0) {
            int at = random.nextInt(s.length());
            char sign = signs.charAt(random.nextInt(signs.length()));
            switch (random.nextInt(4)) {
                case 0: s.setCharAt(at, sign); break;
                case 1: s.insert(at, sign); break;
                case 2: s.deleteCharAt(at); break;
                default: s.setLength(at); break;
            }
        }
        return s.toString();
    }

    private static void oneCall(HeldPaths x, Model m) {
        int dice = random.nextInt(100);
        if (dice < 40) change(x, m);
        else if (dice < 65) ask(x, m);
        else if (dice < 75) follow(x, m);
        else host(x, m);
    }

    private static void change(HeldPaths x, Model m) {
        int w = near(3), p = near(7), c = near(7), v;
        boolean is = random.nextInt(3) > 0;
        switch (random.nextInt(20)) {
            case 0: if (random.nextInt(8) == 0) newWood(x, m); break;
            case 1: path(x, m); break;
            case 2: due("open " + p + " " + is, x.open(p, is), m.open(p, is)); break;
            case 3: due("rain " + is, x.rain(is), m.rain(is)); break;
            case 4: v = near(9); due("weigh " + c + " " + v, x.weigh(c, v), m.weigh(c, v)); break;
            case 5: walker(x, m); break;
            case 6: case 7: due("walk " + w + " " + p, x.walk(w, p), m.walk(w, p)); break;
            case 8: case 9: due("on " + w + " " + p, x.on(w, p), m.on(w, p)); break;
            case 10: case 11: due("off " + w + " " + c, x.off(w, c), m.off(w, c)); break;
            case 12: due("put " + w + " " + c, x.put(w, c), m.put(w, c)); break;
            case 13: case 14: v = random.nextInt(4) == 0 ? near(20) : 1; due("night " + v, x.night(v), m.night(v)); break;
            case 15: v = any(); due("seed " + v, x.seed(v), m.seed(v)); break;
            case 16: due("keep", x.keep(), m.keep()); break;
            case 17: if (random.nextInt(4) == 0) due("again", x.again(), m.again()); break;
            case 18: rule(x, m); break;
            default: v = near(8); due("count " + v, x.count(v), m.count(v)); break;
        }
    }

    private static void newWood(HeldPaths x, Model m) {
        feed(x, m, text());
        due("wood", x.wood(), m.wood());
    }

    private static void ask(HeldPaths x, Model m) {
        int a = near(7), b = near(7), n, part = near(1);
        switch (random.nextInt(12)) {
            case 0: due("way " + a + " " + b, x.way(a, b), m.way(a, b)); break;
            case 1: due("reach " + a, x.reach(a), m.reach(a)); break;
            case 2: case 3:
                due("odds " + a + " " + b + " " + part, x.odds(a, b, part), m.odds(a, b, part));
                break;
            case 4:
                if (random.nextInt(10) > 0) break;
                n = near(3);
                due("held " + a + " " + b + " " + n, x.held(a, b, n), m.held(a, b, n));
                break;
            case 5: n = near(1); due("keepers " + a + " " + b + " " + n, x.keepers(a, b, n), m.keepers(a, b, n)); break;
            case 6: n = near(8); due("home " + a + " " + n, x.home(a, n), m.home(a, n)); break;
            case 7:
                n = random.nextInt(15) == 0 ? near(2) : upTo(1);
                due("within " + a + " " + b + " " + n + " " + part, x.within(a, b, n, part), m.within(a, b, n, part));
                break;
            case 8: case 9: due("seek " + a, x.seek(a), m.seek(a)); break;
            case 10: n = near(8); due("pathOf " + a + " " + n, x.pathOf(a, n), m.pathOf(a, n)); break;
            default: n = near(2); due("walkerOf " + b + " " + n, x.walkerOf(b, n), m.walkerOf(b, n)); break;
        }
    }

    private static void follow(HeldPaths x, Model m) {
        int r = near(3), w = near(3), i = near(11), n = near(1), v;
        switch (random.nextInt(10)) {
            case 0: case 1: due("does " + r + " " + w, x.does(r, w), m.does(r, w)); break;
            case 2: case 3: case 4: due("goes " + r + " " + w, x.goes(r, w), m.goes(r, w)); break;
            case 5: due("ruleOf " + r + " " + n, x.ruleOf(r, n), m.ruleOf(r, n)); break;
            case 6: v = near(12); due("prove " + v, x.prove(v), m.prove(v)); break;
            case 7: due("row " + i + " " + n, x.row(i, n), m.row(i, n)); break;
            case 8: v = any(); due("alterRow " + i + " " + n + " " + v, x.alterRow(i, n, v), m.alterRow(i, n, v)); break;
            default: due("judge", x.judge(), m.judge()); break;
        }
    }

    private static void host(HeldPaths x, Model m) {
        int s = near(3), i = near(9), n = near(3), v = any(), p = near(7);
        switch (random.nextInt(14)) {
            case 0: if (random.nextInt(3) == 0) due("lays " + s, x.lays(s), m.lays(s)); break;
            case 1: case 2:
                v = random.nextInt(8) - 2;
                i = random.nextInt(6) == 0 ? near(40) : near(9);
                due("sheet " + s + " " + v + " " + i, x.sheet(s, v, i), m.sheet(s, v, i));
                break;
            case 3: case 4: due("write " + s + " " + i + " " + v, x.write(s, i, v), m.write(s, i, v)); break;
            case 5: case 6: due("item " + s + " " + n + " " + i, x.item(s, n, i), m.item(s, n, i)); break;
            case 7: due("shelf " + s + " 0 " + p, x.shelf(s, 0, p), m.shelf(s, 0, p)); break;
            case 8: v = near(2); due("shelf " + s + " " + v + " " + n, x.shelf(s, v, n), m.shelf(s, v, n)); break;
            case 9: v = near(14); due("taken " + s + " " + v, x.taken(s, v), m.taken(s, v)); break;
            case 10: case 11:
                due("act " + s + " " + n + " " + v, x.act(s, n, v), m.act(s, n, v));
                for (int k = -1; k < 31; k++) due("trace " + k, x.trace(k), m.trace(k));
                break;
            case 12: due("trace " + i, x.trace(i), m.trace(i)); break;
            default: v = near(5); due("many " + v, x.many(v), m.many(v)); break;
        }
    }

    private static void compareAll(HeldPaths x, Model m) {
        for (int what = 0; what < 7; what++) due("many " + what, x.many(what), m.many(what));
        for (int p = -1; p < 9; p++)
            for (int what = -1; what < 10; what++) due("pathOf " + p + " " + what, x.pathOf(p, what), m.pathOf(p, what));
        for (int w = -1; w < 5; w++)
            for (int what = -1; what < 4; what++) due("walkerOf " + w + " " + what, x.walkerOf(w, what), m.walkerOf(w, what));
        for (int what = -1; what < 6; what++) due("count " + what, x.count(what), m.count(what));
        for (int a = 0; a < 8; a++) {
            due("seek " + a, x.seek(a), m.seek(a));
            for (int b = 0; b < 8; b++) {
                due("way " + a + " " + b, x.way(a, b), m.way(a, b));
                due("keepers " + a + " " + b, x.keepers(a, b, 1), m.keepers(a, b, 1));
            }
        }
        due("within", x.within(0, 1, 2, 0), m.within(0, 1, 2, 0));
        due("within", x.within(0, 1, 2, 1), m.within(0, 1, 2, 1));
        due("held", x.held(0, 1, 3), m.held(0, 1, 3));
    }
}
