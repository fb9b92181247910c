/** For each promise of the document: ordinary calls, the edges that it names, wrong numbers. Answers are by hand. */
public final class PromisesTest {
    private static final int LOW = Integer.MIN_VALUE, HIGH = Integer.MAX_VALUE;
    private static int wrong;
    private static int promise;

    private static void due(String what, long got, long want) {
        if (got != want) {
            wrong++;
            System.out.println("promise " + promise + ": " + what + " answered " + got + ", due is " + want);
        }
    }

    /** Feeds a text, eight bytes at a time, and answers what wood() says of it. */
    private static int told(HeldPaths x, String text) {
        feed(x, text);
        return x.wood();
    }

    private static void feed(HeldPaths x, String text) {
        for (int i = 0; i < text.length(); i += 8) {
            int n = Math.min(8, text.length() - i);
            long eight = 0;
            for (int j = n - 1; j >= 0; j--) {
                eight = eight << 8 | text.charAt(i + j);
            }
            x.feed(eight, n);
        }
    }

    /** Paths 0-1, 1-2, 2-3, 3-4, .. of kind path, with the same chances. */
    private static HeldPaths chain(int paths, int stay, int come) {
        HeldPaths x = new HeldPaths();
        for (int i = 0; i < paths; i++) {
            x.path(0, i, (i + 1) % 8, stay, come);
        }
        return x;
    }

    public static void main(String[] args) {
        promise = 1; newObject();
        promise = 2; feeding();
        promise = 3; woods(); faults(); woodLeaves();
        promise = 4; paths();
        promise = 5; pathsTold(); staysAndComes();
        promise = 6; opening();
        promise = 7; raining();
        promise = 8; weighing();
        promise = 9; walkers();
        promise = 10; walkersTold();
        promise = 11; walking();
        promise = 12; comingOn();
        promise = 13; goingOff();
        promise = 14; putting();
        promise = 15; nights();
        promise = 16; counts();
        promise = 17; seeds();
        promise = 18; ways();
        promise = 19; reaches();
        promise = 20; odds();
        promise = 21; heldPaths();
        promise = 22; keepers();
        promise = 23; homes();
        promise = 24; within();
        promise = 25; seeking();
        promise = 26; rules();
        promise = 27; rulesTold();
        promise = 28; doing();
        promise = 29; going(); goingBack();
        promise = 30; proving();
        promise = 31; rowsTold();
        promise = 32; rowsAltered();
        promise = 33; judging();
        promise = 34; laying();
        promise = 35; sheets();
        promise = 36; writing();
        promise = 37; items();
        promise = 38; shelves();
        promise = 39; taking();
        promise = 40; acting(); actingWrong();
        promise = 41; tracing();
        promise = 42; counting();
        promise = 43; keeping();
        promise = 44; comingAgain();
        System.out.println(wrong == 0 ? "all promises hold" : wrong + " answers are not as due");
        if (wrong != 0) {
            System.exit(1);
        }
    }

    private static void newObject() {
        HeldPaths x = new HeldPaths();
        for (int what = 0; what <= 5; what++) {
            due("many(" + what + ")", x.many(what), 0);
        }
        for (int what = 0; what <= 4; what++) {
            due("count(" + what + ")", x.count(what), 0);
        }
        due("again()", x.again(), -3);
        due("seed(1)", x.seed(1), 1);
        due("rain(false)", x.rain(false), 0);
        for (int i = 0; i < 8; i++) {
            due("weigh(" + i + ", 1)", x.weigh(i, 1), 1);
        }
        for (int i = 0; i < 4; i++) {
            due("item(" + i + ", 0, 0)", x.item(i, 0, 0), -11);
            due("taken(" + i + ", 0)", x.taken(i, 0), -11);
        }
        due("BAD", HeldPaths.BAD, -1);
        due("FULL", HeldPaths.FULL, -2);
        due("NONE", HeldPaths.NONE, -3);
        due("STATE", HeldPaths.STATE, -4);
    }

    private static void feeding() {
        HeldPaths x = new HeldPaths();
        due("feed(0, 0)", x.feed(0, 0), -1);
        due("feed(0, 9)", x.feed(0, 9), -1);
        due("feed(0, LOW)", x.feed(0, LOW), -1);
        due("feed(0, HIGH)", x.feed(0, HIGH), -1);
        due("many(4)", x.many(4), 0);
        // "rain;": bytes above the fifth are not taken
        due("feed(rain;, 5)", x.feed(0x414141_3b6e696172L, 5), 5);
        due("wood()", x.wood(), 0);
        due("rain(true)", x.rain(true), 0);
        for (int i = 1; i <= 29; i++) {
            due("feed, 8", x.feed(0x2020202020202020L, 8), 8 * i);
        }
        due("feed, 7", x.feed(0x2020202020202020L, 7), 239);
        due("feed, 2", x.feed(0x2020, 2), -2);
        due("feed, 8", x.feed(0x2020202020202020L, 8), -2);
        due("feed, 9", x.feed(0, 9), -1);
        due("many(4)", x.many(4), 239);
        due("feed, 1", x.feed(0x20, 1), 240);
        due("feed, 1", x.feed(0x20, 1), -2);
        due("wood()", x.wood(), 0);
        due("many(4)", x.many(4), 0);
    }

    private static void woods() {
        HeldPaths x = new HeldPaths();
        due("wood()", told(x, "path 0 1 stay 2 come 3;  ride 7 05 stay 08come0 gone ;rain;walker 3pay 99;"), 2);
        due("many(1)", x.many(1), 1);
        int[] first = {0, 0, 1, 2, 3, 1, 2, 3, 0};
        int[] second = {5, 7, 5, 8, 0, 0, 8, 0, 0};
        for (int what = 0; what <= 8; what++) {
            due("pathOf(0, " + what + ")", x.pathOf(0, what), first[what]);
            due("pathOf(1, " + what + ")", x.pathOf(1, what), second[what]);
        }
        due("walkerOf(0, 0)", x.walkerOf(0, 0), 3);
        due("walkerOf(0, 1)", x.walkerOf(0, 1), -9);
        due("walkerOf(0, 2)", x.walkerOf(0, 2), 99);
        due("rain(true)", x.rain(true), 0);
        String[] kinds = {"path", "track", "wall", "deer", "bog", "ride"};
        for (int k = 0; k < 6; k++) {
            due(kinds[k], told(x, kinds[k] + " 7 0 stay 0 come 8;"), 1);
            due(kinds[k], x.pathOf(0, 0), k);
            due(kinds[k], x.pathOf(0, 5), 1);
        }
        due("names and numbers part themselves", told(x, "path0 1stay2come3gone;"), 1);
        due("pathOf(0, 5)", x.pathOf(0, 5), 0);
        due("weights", told(x, "weight 2 0;weight 7 9;weight 7 8;rain;rain;"), 0);
        due("weigh(2, 1)", x.weigh(2, 1), 0);
        due("weigh(7, 1)", x.weigh(7, 1), 8);
        due("weigh(3, 1)", x.weigh(3, 1), 1);
        due("eight paths", told(x, "path 0 1 stay 0 come 0;".repeat(8)), 8);
        due("four walkers", told(x, "walker 0;".repeat(4)), 0);
        due("many(1)", x.many(1), 4);
        due("the last clearing", told(x, "path 0 7 stay 0 come 0;walker 7;"), 1);
        due("pathOf(0, 2)", x.pathOf(0, 2), 7);
        due("walkerOf(0, 0)", x.walkerOf(0, 0), 7);
        due("PAY, if not told", x.walkerOf(0, 2), 0);
        due("blanks alone", told(x, "    "), 0);
        due("there", x.count(1), 0);
        due("nothing", x.wood(), 0);
        due("many(1)", x.many(1), 0);
    }

    private static void faults() {
        String path = "path 0 1 stay 2 come 3;";
        String[] texts = {
            "path", "path ", " pat", "path;", "path a", "path 0", "path 0 0 stay 1 come 1;", "path 3 03 stay 1 come 1;",
            "path 8 0 stay 1 come 1;", "path 0 8 stay 1 come 1;", "path 0 1 stays", "path 0 1 2", "path 0 1 stay 9;",
            "path 0 1 stay 1 stay 1;", "path 0 1 stay 1 come 9;", "path 0 1 stay 1 come 1 gon;",
            "path 0 1 stay 1 come 1 gone gone;", "path 0 1 stay 1 come 1", "path 0 1 stay 1 come 1 gone  ",
            "path 000 1 stay 1 come 1;", "path 0 1 stay 001 come 1;", "walker 0 1;", "walker;", "walker 0 pay 100;",
            "walker 0 pay;", "walker 8;", "walker 0 pay 1 gone;", "weight 8 1;", "weight 0 10;", "weight 0;", "weight 0 1",
            "rain", "rain rain;", "rain;;", ";", "0", "gone;", "Path 0 1 stay 1 come 1;", "paths 0 1 stay 1 come 1;",
            "path-0 1 stay 1 come 1;", "path\t0 1 stay 1 come 1;", "path 0 1 stay 1 come 1;\u00ff", "rain;\n", "rain\u0000;",
            path.repeat(8) + "path", "walker 0;".repeat(4) + " walker 9", "rain: ", "rain{;", "rain`;", "rain/;",
            "rain;\u0000", "rainz;", "zain;", "rain;gain;"
        };
        int[] places = {
            4, 5, 1, 4, 5, 6, 7, 7,
            5, 7, 9, 9, 14,
            16, 21, 23,
            28, 22, 29,
            5, 14, 9, 6, 13,
            12, 7, 15, 7, 9, 8, 10,
            4, 5, 5, 0, 0, 0, 0, 0,
            4, 4, 23, 5, 4,
            184, 37, 4, 4, 4, 4,
            5, 0, 0, 5
        };
        due("as many texts as places", texts.length, places.length);
        for (int i = 0; i < texts.length; i++) {
            HeldPaths x = new HeldPaths();
            x.path(1, 2, 3, 4, 5);
            x.prove(3);
            due(texts[i], told(x, texts[i]), -100 - places[i]);
            due("the tape is used up by " + texts[i], x.many(4), 0);
            due("paths stay by " + texts[i], x.many(0), 1);
            due("walkers stay by " + texts[i], x.many(1), 0);
            due("rows stay by " + texts[i], x.many(3), 3);
            due("rain stays by " + texts[i], x.rain(false), 0);
        }
    }

    private static void woodLeaves() {
        HeldPaths x = chain(3, 8, 0);
        x.walker(2, 7);
        x.rule(1, 4);
        x.rain(true);
        x.weigh(3, 7);
        x.night(2);
        x.prove(4);
        x.seed(77);
        x.sheet(1, 2, 5);
        x.shelf(0, 0, 0);
        x.shelf(1, 0, 2);
        x.act(0, 3, 1);
        x.keep();
        due("wood()", told(x, "wall 4 5 stay 1 come 1;"), 1);
        due("walkers", x.many(1), 0);
        due("rules", x.many(2), 1);
        due("rows", x.many(3), 0);
        due("bodies", x.many(5), 3);
        due("rain", x.rain(false), 0);
        due("weight", x.weigh(3, 7), 1);
        due("night", x.count(0), 0);
        due("z", x.seed(1), 77);
        due("sheet", x.item(1, 2, 4), 0);
        due("a shelf holds by the number", x.taken(0, 2), 0);
        due("no such path any more", x.taken(1, 0), -11);
        due("there", x.count(1), 1);
        due("again()", x.again(), 3);
    }

    private static void paths() {
        HeldPaths x = new HeldPaths();
        int[][] bad = {
            {-1, 0, 1, 1, 1}, {6, 0, 1, 1, 1}, {0, -1, 1, 1, 1}, {0, 8, 1, 1, 1}, {0, 0, -1, 1, 1}, {0, 0, 8, 1, 1},
            {0, 3, 3, 1, 1}, {0, 0, 1, -1, 1}, {0, 0, 1, 9, 1}, {0, 0, 1, 1, -1}, {0, 0, 1, 1, 9}, {LOW, LOW, HIGH, LOW, HIGH}
        };
        for (int[] b : bad) {
            due("path " + b[0] + " " + b[1] + " ..", x.path(b[0], b[1], b[2], b[3], b[4]), -1);
        }
        due("many(0)", x.many(0), 0);
        for (int i = 0; i < 8; i++) {
            due("path()", x.path(i % 6, 7, 0, 8, 0), i);
        }
        due("path()", x.path(0, 0, 1, 1, 1), -2);
        due("BAD comes first", x.path(0, 1, 1, 1, 1), -1);
        due("many(0)", x.many(0), 8);
        due("there", x.count(1), 255);
    }

    private static void pathsTold() {
        HeldPaths x = new HeldPaths();
        x.path(0, 1, 2, 3, 4);
        x.path(4, 7, 6, 8, 0);
        x.walker(1, 0);
        x.walker(7, 0);
        x.walker(2, 0);
        x.on(0, 0);
        x.on(2, 0);
        x.open(1, false);
        int[] first = {0, 1, 2, 3, 4, 1, 3, 4, 5};
        int[] second = {4, 7, 6, 8, 0, 0, 8, 0, 0};
        for (int what = 0; what <= 8; what++) {
            due("pathOf(0, " + what + ")", x.pathOf(0, what), first[what]);
            due("pathOf(1, " + what + ")", x.pathOf(1, what), second[what]);
        }
        due("pathOf(0, -1)", x.pathOf(0, -1), -1);
        due("pathOf(0, 9)", x.pathOf(0, 9), -1);
        due("pathOf(2, 0)", x.pathOf(2, 0), -1);
        due("pathOf(-1, 0)", x.pathOf(-1, 0), -1);
        due("pathOf(HIGH, 0)", x.pathOf(HIGH, 0), -1);
        due("pathOf(0, LOW)", x.pathOf(0, LOW), -1);
    }

    /** STAYS and COMES for each STAY or COME from 0 to 8. */
    private static void staysAndComes() {
        int[] same = {0, 1, 2, 3, 4, 5, 6, 7, 8};
        int[] track = {2, 3, 4, 5, 6, 7, 8, 8, 8};
        int[] eight = {8, 8, 8, 8, 8, 8, 8, 8, 8};
        int[] none = {0, 0, 0, 0, 0, 0, 0, 0, 0};
        int[] half = {1, 1, 2, 2, 3, 3, 4, 4, 4};
        int[] wet = {0, 0, 1, 2, 3, 4, 5, 5, 5};
        stayAndCome(0, false, same, same);
        stayAndCome(0, true, same, same);
        stayAndCome(1, false, track, same);
        stayAndCome(1, true, track, same);
        stayAndCome(2, false, eight, none);
        stayAndCome(2, true, eight, none);
        stayAndCome(3, false, half, track);
        stayAndCome(3, true, half, track);
        stayAndCome(4, false, track, same);
        stayAndCome(4, true, wet, none);
        stayAndCome(5, false, same, same);
        stayAndCome(5, true, same, same);
        HeldPaths x = new HeldPaths();
        x.path(5, 2, 3, 1, 0);
        x.path(0, 2, 4, 1, 0);
        x.walker(4, 0);
        due("nobody at an end of the ride", x.pathOf(0, 6), 1);
        x.walk(0, 1);
        due("somebody at its first end", x.pathOf(0, 6), 8);
        x.put(0, 3);
        due("somebody at its second end", x.pathOf(0, 6), 8);
        x.put(0, 2);
        x.on(0, 1);
        due("who is on a path is in no clearing", x.pathOf(0, 6), 1);
        x.put(0, 2);
        x.on(0, 0);
        due("nor who is on the ride itself", x.pathOf(0, 6), 1);
    }

    private static void stayAndCome(int kind, boolean wet, int[] stays, int[] comes) {
        for (int v = 0; v <= 8; v++) {
            HeldPaths x = new HeldPaths();
            x.path(kind, 0, 1, v, v);
            x.rain(wet);
            due("STAYS of kind " + kind + " with " + v, x.pathOf(0, 6), stays[v]);
            due("COMES of kind " + kind + " with " + v, x.pathOf(0, 7), comes[v]);
        }
    }

    private static void opening() {
        HeldPaths x = chain(2, 8, 0);
        due("open(0, true)", x.open(0, true), 0);
        due("open(0, false)", x.open(0, false), 1);
        due("open(0, false)", x.open(0, false), 0);
        due("pathOf(0, 5)", x.pathOf(0, 5), 0);
        due("pathOf(1, 5)", x.pathOf(1, 5), 1);
        due("open(0, true)", x.open(0, true), 1);
        due("pathOf(0, 5)", x.pathOf(0, 5), 1);
        due("open(2, true)", x.open(2, true), -1);
        due("open(-1, true)", x.open(-1, true), -1);
        x.walker(0, 0);
        x.on(0, 0);
        due("open(0, false)", x.open(0, false), -4);
        due("open(0, true)", x.open(0, true), -4);
        due("pathOf(0, 5)", x.pathOf(0, 5), 1);
        x.off(0, 0);
        due("open(0, false)", x.open(0, false), 1);
    }

    private static void raining() {
        HeldPaths x = new HeldPaths();
        due("rain(false)", x.rain(false), 0);
        due("rain(true)", x.rain(true), 1);
        due("rain(true)", x.rain(true), 0);
        due("rain(false)", x.rain(false), 1);
    }

    private static void weighing() {
        HeldPaths x = new HeldPaths();
        due("weigh(0, 9)", x.weigh(0, 9), 1);
        due("weigh(0, 0)", x.weigh(0, 0), 9);
        due("weigh(7, 3)", x.weigh(7, 3), 1);
        due("weigh(8, 3)", x.weigh(8, 3), -1);
        due("weigh(-1, 3)", x.weigh(-1, 3), -1);
        due("weigh(7, 10)", x.weigh(7, 10), -1);
        due("weigh(7, -1)", x.weigh(7, -1), -1);
        due("weigh(7, 1)", x.weigh(7, 1), 3);
    }

    private static void walkers() {
        HeldPaths x = new HeldPaths();
        due("walker(8, 0)", x.walker(8, 0), -1);
        due("walker(-1, 0)", x.walker(-1, 0), -1);
        due("walker(0, 100)", x.walker(0, 100), -1);
        due("walker(0, -1)", x.walker(0, -1), -1);
        due("walker(0, 0)", x.walker(0, 0), 0);
        due("walker(7, 99)", x.walker(7, 99), 1);
        due("walker(1, 1)", x.walker(1, 1), 2);
        due("walker(1, 1)", x.walker(1, 1), 3);
        due("walker(1, 1)", x.walker(1, 1), -2);
        due("walker(8, 1)", x.walker(8, 1), -1);
        due("many(1)", x.many(1), 4);
    }

    private static void walkersTold() {
        HeldPaths x = chain(3, 0, 0);
        x.walker(2, 99);
        due("walkerOf(0, 0)", x.walkerOf(0, 0), 2);
        due("walkerOf(0, 1)", x.walkerOf(0, 1), -9);
        due("walkerOf(0, 2)", x.walkerOf(0, 2), 99);
        due("walkerOf(0, 3)", x.walkerOf(0, 3), -1);
        due("walkerOf(0, -1)", x.walkerOf(0, -1), -1);
        due("walkerOf(1, 0)", x.walkerOf(1, 0), -1);
        due("walkerOf(-1, 0)", x.walkerOf(-1, 0), -1);
        x.on(0, 2);
        due("walkerOf(0, 0)", x.walkerOf(0, 0), -9);
        due("walkerOf(0, 1)", x.walkerOf(0, 1), 2);
    }

    private static void walking() {
        HeldPaths x = chain(3, 8, 0);
        x.walker(1, 0);
        due("walk(0, 1)", x.walk(0, 1), 2);
        due("walk(0, 1)", x.walk(0, 1), 1);
        due("walk(0, 0)", x.walk(0, 0), 0);
        due("not at an end", x.walk(0, 2), -4);
        due("no such walker", x.walk(1, 0), -1);
        due("no such walker", x.walk(-1, 0), -1);
        due("no such path", x.walk(0, 3), -1);
        due("no such path", x.walk(0, -1), -1);
        x.open(0, false);
        due("it isn't there", x.walk(0, 0), -4);
        x.open(0, true);
        x.on(0, 0);
        due("on it", x.walk(0, 0), -4);
        due("walkerOf(0, 1)", x.walkerOf(0, 1), 0);
    }

    private static void comingOn() {
        HeldPaths x = chain(3, 8, 0);
        x.walker(1, 0);
        x.walker(2, 0);
        x.walker(0, 0);
        due("on(0, 1)", x.on(0, 1), 1);
        due("on(1, 1)", x.on(1, 1), 2);
        due("pathOf(1, 8)", x.pathOf(1, 8), 3);
        due("on(2, 1): not at an end", x.on(2, 1), -4);
        due("on(0, 0): on another", x.on(0, 0), -4);
        due("on(0, 1): on it already", x.on(0, 1), -4);
        due("on(3, 0)", x.on(3, 0), -1);
        due("on(-1, 0)", x.on(-1, 0), -1);
        due("on(2, 3)", x.on(2, 3), -1);
        due("on(2, -1)", x.on(2, -1), -1);
        x.open(0, false);
        due("on(2, 0): it isn't there", x.on(2, 0), -4);
        due("walkerOf(2, 0)", x.walkerOf(2, 0), 0);
    }

    private static void goingOff() {
        HeldPaths x = chain(2, 8, 0);
        x.walker(0, 0);
        due("not on one", x.off(0, 0), -4);
        x.on(0, 0);
        due("not at its end", x.off(0, 2), -4);
        due("off(0, 8)", x.off(0, 8), -1);
        due("off(0, -1)", x.off(0, -1), -1);
        due("off(1, 0)", x.off(1, 0), -1);
        due("off(-1, 0)", x.off(-1, 0), -1);
        due("off(0, 1)", x.off(0, 1), 1);
        due("walkerOf(0, 0)", x.walkerOf(0, 0), 1);
        due("walkerOf(0, 1)", x.walkerOf(0, 1), -9);
        x.on(0, 0);
        due("off(0, 0)", x.off(0, 0), 1);
        due("walkerOf(0, 0)", x.walkerOf(0, 0), 0);
    }

    private static void putting() {
        HeldPaths x = chain(2, 8, 0);
        x.walker(0, 0);
        due("put(0, 7)", x.put(0, 7), 0);
        due("put(0, 8)", x.put(0, 8), -1);
        due("put(0, -1)", x.put(0, -1), -1);
        due("put(1, 0)", x.put(1, 0), -1);
        due("put(-1, 0)", x.put(-1, 0), -1);
        due("put(0, 0)", x.put(0, 0), 7);
        x.on(0, 0);
        due("put(0, 5)", x.put(0, 5), -9);
        due("walkerOf(0, 0)", x.walkerOf(0, 0), 5);
        due("walkerOf(0, 1)", x.walkerOf(0, 1), -9);
    }

    /** From z = 1: z is 1103527590, 2524885223, 662824084, 3295386429; their draws 6, 6, 1, 3. */
    private static void nights() {
        HeldPaths x = new HeldPaths();
        due("night(20)", x.night(20), 0);
        due("count(0)", x.count(0), 20);
        due("no path, no draw", x.seed(1), 1);
        x = chain(4, 0, 0);
        for (int i = 0; i < 4; i++) {
            x.open(i, i % 2 == 0);
        }
        due("night(1)", x.night(1), 0);
        due("seed(1)", x.seed(1), (int) 3295386429L);
        int[] draws = {6, 6, 1, 3};
        for (int p = 0; p < 4; p++) {
            int others = (1 << p) - 1;
            HeldPaths y = chain(4, 8, 0);
            due("it stays, drawn below STAYS", nightWithStay(y, p, draws[p] + 1) & 1 << p, 1 << p);
            y = chain(4, 8, 0);
            due("it goes, drawn at STAYS", nightWithStay(y, p, draws[p]) & (others | 1 << p), others);
        }
        x = new HeldPaths();
        x.path(0, 0, 1, 0, 7);
        x.path(0, 0, 1, 0, 6);
        x.open(0, false);
        x.open(1, false);
        due("the first comes, drawn 6 below 7; the second not, drawn 6 too", x.night(1), 1);
        due("night(0)", x.night(0), 1);
        due("night(21)", x.night(21), -1);
        due("night(-1)", x.night(-1), -1);
        due("count(0)", x.count(0), 1);
        x = chain(2, 0, 0);
        x.walker(0, 0);
        x.on(0, 0);
        due("who is on it keeps it", x.night(1), 1);
        due("and it draws nothing", x.seed(1), 1103527590);
    }

    /** A night of four paths from z = 1 of which one has another STAY. */
    private static int nightWithStay(HeldPaths x, int path, int stay) {
        x.sheet(0, 2, 4);
        for (int i = 0; i < 4; i++) {
            x.write(0, i, i == path ? stay : 8);
        }
        x.lays(0);
        return x.night(1);
    }

    private static void counts() {
        HeldPaths x = chain(3, 8, 0);
        x.walker(0, 99);
        x.walker(1, 20);
        x.walker(3, 3);
        x.open(1, false);
        x.night(3);
        x.on(0, 0);
        x.on(1, 0);
        x.on(2, 2);
        x.off(1, 1);
        due("count(0)", x.count(0), 3);
        due("count(1)", x.count(1), 5);
        due("count(2)", x.count(2), 5);
        due("count(3)", x.count(3), 122);
        due("count(4)", x.count(4), 102);
        due("count(5)", x.count(5), -1);
        due("count(-1)", x.count(-1), -1);
    }

    private static void seeds() {
        HeldPaths x = new HeldPaths();
        due("seed(LOW)", x.seed(LOW), 1);
        due("seed(-5)", x.seed(-5), LOW);
        due("seed(0)", x.seed(0), -5);
        x.path(0, 0, 1, 8, 8);
        x.night(1);
        due("seed(0)", x.seed(0), 12345);
    }

    private static void ways() {
        HeldPaths x = chain(7, 8, 0);
        due("way(0, 7)", x.way(0, 7), 7);
        due("way(7, 0)", x.way(7, 0), 7);
        due("way(3, 3)", x.way(3, 3), 0);
        x.path(0, 0, 5, 8, 0);
        due("way(0, 7)", x.way(0, 7), 3);
        due("way(0, 3)", x.way(0, 3), 3);
        x.open(6, false);
        due("way(0, 7)", x.way(0, 7), -3);
        due("way(0, 8)", x.way(0, 8), -1);
        due("way(-1, 0)", x.way(-1, 0), -1);
        due("way(8, 8)", x.way(8, 8), -1);
    }

    private static void reaches() {
        HeldPaths x = chain(7, 8, 0);
        due("reach(7)", x.reach(7), 255);
        x.open(3, false);
        due("reach(0)", x.reach(0), 15);
        due("reach(3)", x.reach(3), 15);
        due("reach(4)", x.reach(4), 240);
        due("reach(8)", x.reach(8), -1);
        due("reach(-1)", x.reach(-1), -1);
        due("reach(5)", new HeldPaths().reach(5), 32);
    }

    private static void dueOdds(HeldPaths x, int a, int b, long above, long below) {
        due("odds(" + a + ", " + b + ", 0)", x.odds(a, b, 0), above);
        due("odds(" + a + ", " + b + ", 1)", x.odds(a, b, 1), below);
    }

    private static void odds() {
        HeldPaths x = chain(2, 6, 3);
        dueOdds(x, 0, 1, 3, 4);
        dueOdds(x, 0, 2, 9, 16);
        dueOdds(x, 2, 0, 9, 16);
        dueOdds(x, 2, 2, 1, 1);
        dueOdds(x, 0, 7, 0, 1);
        x.open(1, false);
        dueOdds(x, 0, 2, 9, 32);
        x.path(0, 0, 2, 4, 0);
        // 1 less (1 - 9/32) * 1/2
        dueOdds(x, 0, 2, 41, 64);
        x.walker(0, 0);
        x.on(0, 0);
        dueOdds(x, 0, 1, 1, 1);
        // 1 less 5/8 * 1/2
        dueOdds(x, 0, 2, 11, 16);
        x = chain(8, 1, 0);
        // seven paths of 1/8 one way, one of 1/8 the other: 1/8 + 8^-7 - 8^-8
        dueOdds(x, 0, 7, (1 << 21) + 7, 1 << 24);
        due("odds(8, 0, 0)", x.odds(8, 0, 0), -1);
        due("odds(0, -1, 0)", x.odds(0, -1, 0), -1);
        due("odds(0, 0, 2)", x.odds(0, 0, 2), -1);
        due("odds(0, 0, -1)", x.odds(0, 0, -1), -1);
    }

    private static void heldPaths() {
        HeldPaths x = new HeldPaths();
        x.path(0, 0, 1, 6, 0);
        x.path(0, 1, 2, 2, 0);
        x.path(0, 0, 2, 4, 0);
        due("held(0, 2, 0)", x.held(0, 2, 0), 0);
        due("one is enough", x.held(0, 2, 3), 4);
        due("held(0, 2, 1)", x.held(0, 2, 1), 4);
        x.open(2, false);
        due("the weaker one", x.held(0, 2, 1), 2);
        due("the first one", x.held(0, 1, 1), 1);
        due("both", x.held(0, 2, 2), 3);
        due("both, not more", x.held(0, 2, 3), 3);
        due("to itself", x.held(2, 2, 3), 0);
        due("where nothing helps", x.held(0, 7, 3), 0);
        due("held(0, 2, 4)", x.held(0, 2, 4), -1);
        due("held(0, 2, -1)", x.held(0, 2, -1), -1);
        due("held(8, 2, 1)", x.held(8, 2, 1), -1);
        due("held(0, -1, 1)", x.held(0, -1, 1), -1);
        x = chain(4, 4, 0);
        due("of several the least", x.held(0, 4, 2), 3);
        due("of several the least", x.held(0, 4, 3), 7);
        x.walker(0, 0);
        x.on(0, 0);
        due("those held already need nobody", x.held(0, 4, 1), 2);
        x = chain(2, 8, 0);
        due("what stays anyway needs nobody", x.held(0, 2, 2), 0);
        x = new HeldPaths();
        x.path(0, 0, 1, 0, 0);
        x.path(0, 0, 1, 0, 0);
        x.path(0, 0, 1, 8, 8);
        x.open(2, false);
        due("fewest first", x.held(0, 1, 3), 0);
    }

    private static void keepers() {
        HeldPaths x = new HeldPaths();
        x.path(0, 0, 1, 7, 0);
        x.path(0, 1, 2, 7, 0);
        x.path(2, 2, 3, 0, 0);
        x.path(1, 0, 4, 6, 0);
        x.path(0, 4, 2, 0, 0);
        due("keepers(0, 3, 0)", x.keepers(0, 3, 0), 1);
        due("keepers(0, 3, 1)", x.keepers(0, 3, 1), 16);
        due("keepers(2, 3, 0)", x.keepers(2, 3, 0), 0);
        due("keepers(2, 3, 1)", x.keepers(2, 3, 1), 0);
        due("keepers(1, 1, 0)", x.keepers(1, 1, 0), 0);
        x.open(4, false);
        due("keepers(0, 3, 1)", x.keepers(0, 3, 1), 3);
        x.walker(1, 0);
        x.on(0, 1);
        due("keepers(0, 3, 0)", x.keepers(0, 3, 0), 1);
        due("keepers(0, 3, 1)", x.keepers(0, 3, 1), 1);
        x.open(0, false);
        due("keepers(0, 3, 0)", x.keepers(0, 3, 0), -3);
        due("keepers(0, 7, 1)", x.keepers(0, 7, 1), -3);
        due("keepers(0, 3, 2)", x.keepers(0, 3, 2), -1);
        due("keepers(0, 3, -1)", x.keepers(0, 3, -1), -1);
        due("keepers(8, 3, 0)", x.keepers(8, 3, 0), -1);
        due("keepers(0, -1, 0)", x.keepers(0, -1, 0), -1);
        x = new HeldPaths();
        x.path(0, 3, 1, 0, 0);
        x.path(0, 3, 2, 0, 0);
        x.path(0, 0, 1, 0, 0);
        x.path(0, 0, 2, 0, 0);
        due("of as many the least set", x.keepers(0, 3, 1), 5);
        x.walker(3, 0);
        x.on(0, 0);
        due("the first path is held", x.keepers(0, 3, 1), 4);
        due("a path of COMES 8 that is not there does not count", sureByComing(), -3);
        x = chain(7, 0, 0);
        due("keepers(0, 7, 0)", x.keepers(0, 7, 0), 7);
        due("keepers(0, 7, 1)", x.keepers(0, 7, 1), 127);
    }

    private static int sureByComing() {
        HeldPaths x = chain(1, 8, 8);
        x.open(0, false);
        return x.keepers(0, 1, 0);
    }

    private static void homes() {
        HeldPaths x = new HeldPaths();
        x.path(0, 0, 1, 4, 0);
        x.path(0, 1, 2, 7, 0);
        x.path(0, 0, 3, 8, 0);
        x.path(0, 4, 0, 3, 5);
        x.open(3, false);
        due("home(0, 8)", x.home(0, 8), 9);
        due("home(0, 5)", x.home(0, 5), 25);
        due("home(0, 4)", x.home(0, 4), 27);
        // 2: 4/8 * 7/8 is 3.5 by 8
        due("home(0, 3)", x.home(0, 3), 31);
        due("home(0, 1)", x.home(0, 1), 31);
        due("home(0, 0)", x.home(0, 0), 255);
        due("home(7, 8)", x.home(7, 8), 128);
        due("home(0, 9)", x.home(0, 9), -1);
        due("home(0, -1)", x.home(0, -1), -1);
        due("home(8, 4)", x.home(8, 4), -1);
    }

    private static void dueWithin(HeldPaths x, int a, int b, int n, long above, long below) {
        due("within(" + a + ", " + b + ", " + n + ", 0)", x.within(a, b, n, 0), above);
        due("within(" + a + ", " + b + ", " + n + ", 1)", x.within(a, b, n, 1), below);
    }

    private static void within() {
        HeldPaths x = new HeldPaths();
        x.path(0, 0, 1, 8, 4);
        x.path(0, 1, 2, 0, 2);
        x.open(0, false);
        x.open(1, false);
        dueWithin(x, 0, 0, 0, 1, 1);
        dueWithin(x, 0, 1, 0, 0, 1);
        dueWithin(x, 0, 1, 1, 1, 2);
        dueWithin(x, 0, 1, 2, 3, 4);
        dueWithin(x, 0, 2, 1, 1, 8);
        // Behind the first night: both 1/8; the first alone 3/8, then 1/4 more; the second alone 1/8, then
        // (it goes) 0; none 3/8, then 1/8 more: 1/8 + 3/32 + 3/64
        dueWithin(x, 0, 2, 2, 17, 64);
        x = new HeldPaths();
        x.path(0, 0, 1, 0, 0);
        x.path(0, 0, 2, 8, 8);
        x.path(0, 2, 3, 0, 1);
        x.path(0, 1, 3, 0, 6);
        x.open(2, false);
        x.open(3, false);
        // He goes to 1 while he can, and waits there.
        dueWithin(x, 0, 3, 1, 3, 4);
        // Behind a night from 1: there with 3/4; else once more 3/4 from 1 (the way to it is gone).
        dueWithin(x, 0, 3, 2, 15, 16);
        x.open(0, false);
        dueWithin(x, 0, 3, 1, 1, 8);
        x = chain(1, 0, 0);
        x.walker(0, 0);
        dueWithin(x, 0, 1, 2, 1, 1);
        x.on(0, 0);
        x.path(5, 1, 2, 8, 0);
        x.path(0, 2, 3, 8, 4);
        x.open(2, false);
        dueWithin(x, 0, 3, 2, 3, 4);
        ridesWithin();
        due("within(8, 0, 1, 0)", x.within(8, 0, 1, 0), -1);
        due("within(0, -1, 1, 0)", x.within(0, -1, 1, 0), -1);
        due("within(0, 1, 3, 0)", x.within(0, 1, 3, 0), -1);
        due("within(0, 1, -1, 0)", x.within(0, 1, -1, 0), -1);
        due("within(0, 1, 1, 2)", x.within(0, 1, 1, 2), -1);
        due("within(0, 1, 1, -1)", x.within(0, 1, 1, -1), -1);
        dueWithin(new HeldPaths(), 0, 1, 2, 0, 1);
    }

    /** A ride from 1 to 2 that stays by 0, behind a path that comes by 4: is there one night of waiting at most? */
    private static void ridesWithin() {
        HeldPaths x = new HeldPaths();
        x.path(5, 1, 2, 0, 0);
        x.path(0, 0, 1, 8, 4);
        x.open(1, false);
        dueWithin(x, 0, 2, 2, 0, 1);
        x.walker(2, 0);
        dueWithin(x, 0, 2, 1, 1, 2);
        dueWithin(x, 0, 2, 2, 3, 4);
    }

    private static void seeking() {
        HeldPaths x = new HeldPaths();
        x.path(0, 0, 1, 8, 8);
        x.path(0, 0, 2, 8, 4);
        x.path(0, 0, 3, 8, 4);
        x.path(0, 0, 4, 8, 1);
        for (int i = 1; i < 4; i++) {
            x.open(i, false);
        }
        due("of several the least", x.seek(0), 2);
        x.weigh(3, 2);
        due("seek(0)", x.seek(0), 3);
        x.weigh(4, 9);
        due("9 by 8 is more than 2 by 2", x.seek(0), 4);
        x.weigh(4, 8);
        due("as much as: the least", x.seek(0), 3);
        x.weigh(1, 9);
        due("who has a way is not lost", x.seek(0), 3);
        x.weigh(2, 0);
        x.weigh(3, 0);
        x.weigh(4, 0);
        due("all weigh 0", x.seek(0), -3);
        due("nothing comes", x.seek(7), -3);
        x.open(0, false);
        due("seek(1)", x.seek(1), 0);
        due("seek(8)", x.seek(8), -1);
        due("seek(-1)", x.seek(-1), -1);
        due("a way to all", chain(7, 8, 8).seek(3), -3);
    }

    private static void rules() {
        HeldPaths x = new HeldPaths();
        due("rule(4, 0)", x.rule(4, 0), -1);
        due("rule(-1, 0)", x.rule(-1, 0), -1);
        due("rule(0, 8)", x.rule(0, 8), -1);
        due("rule(0, -1)", x.rule(0, -1), -1);
        due("many(2)", x.many(2), 0);
        for (int k = 0; k < 4; k++) {
            due("rule(" + k + ", 7)", x.rule(k, 7), k);
        }
        due("rule(0, 0)", x.rule(0, 0), -2);
        due("rule(4, 0)", x.rule(4, 0), -1);
        due("many(2)", x.many(2), 4);
        told(x, "");
        due("a new wood leaves them: KIND", x.ruleOf(3, 0), 3);
        due("a new wood leaves them: A", x.ruleOf(3, 1), 7);
    }

    private static void rulesTold() {
        HeldPaths x = new HeldPaths();
        x.rule(3, 7);
        x.rule(0, 2);
        due("ruleOf(0, 0)", x.ruleOf(0, 0), 3);
        due("ruleOf(0, 1)", x.ruleOf(0, 1), 7);
        due("ruleOf(1, 0)", x.ruleOf(1, 0), 0);
        due("ruleOf(1, 1)", x.ruleOf(1, 1), 2);
        due("ruleOf(1, 2)", x.ruleOf(1, 2), -1);
        due("ruleOf(1, -1)", x.ruleOf(1, -1), -1);
        due("ruleOf(2, 0)", x.ruleOf(2, 0), -1);
        due("ruleOf(-1, 0)", x.ruleOf(-1, 0), -1);
    }

    /** A chain of three paths, and the rules straight, hold, back, wait for one clearing. */
    private static HeldPaths ruled(int clearing) {
        HeldPaths x = chain(3, 8, 0);
        for (int k = 0; k < 4; k++) {
            x.rule(k, clearing);
        }
        x.walker(0, 0);
        return x;
    }

    private static void doing() {
        HeldPaths x = ruled(2);
        due("wait: too far", x.does(3, 0), 0);
        due("straight", x.does(0, 0), 1);
        due("at 1", x.walkerOf(0, 0), 1);
        due("wait: one path", x.does(3, 0), 1);
        due("at 2", x.walkerOf(0, 0), 2);
        due("straight: there already", x.does(0, 0), 0);
        due("hold: there already", x.does(1, 0), 0);
        due("back to 0, two paths away", x.does(2, 0), 1);
        due("at 1", x.walkerOf(0, 0), 1);
        due("hold", x.does(1, 0), 1);
        due("on path 1", x.walkerOf(0, 1), 1);
        for (int k = 0; k < 4; k++) {
            due("who is on a path stays", x.does(k, 0), 0);
        }
        due("on path 1", x.walkerOf(0, 1), 1);
        due("does(4, 0)", x.does(4, 0), -1);
        due("does(-1, 0)", x.does(-1, 0), -1);
        due("does(0, 1)", x.does(0, 1), -1);
        due("does(0, -1)", x.does(0, -1), -1);
        x.put(0, 7);
        for (int k = 0; k < 4; k++) {
            due("without a way he stays", x.does(k, 0), 0);
        }
        due("at 7", x.walkerOf(0, 0), 7);
    }

    private static void going() {
        HeldPaths x = ruled(3);
        due("straight", x.goes(0, 0), 0);
        due("hold", x.goes(1, 0), 0);
        due("back: there already", x.goes(2, 0), -9);
        due("wait", x.goes(3, 0), -9);
        due("nothing changes", x.walkerOf(0, 0), 0);
        x.path(0, 2, 0, 8, 0);
        due("a shorter way", x.goes(0, 0), 3);
        x.path(0, 0, 2, 8, 0);
        due("the first by numbers", x.goes(0, 0), 3);
        x.open(3, false);
        due("those that are there", x.goes(0, 0), 4);
        x.path(0, 0, 3, 8, 0);
        due("wait", x.goes(3, 0), 5);
        x.on(0, 5);
        due("on a path", x.goes(0, 0), -9);
        x.put(0, 3);
        due("there already", x.goes(0, 0), -9);
        x.put(0, 7);
        due("without a way", x.goes(0, 0), -9);
        due("goes(4, 0)", x.goes(4, 0), -1);
        due("goes(-1, 0)", x.goes(-1, 0), -1);
        due("goes(0, 1)", x.goes(0, 1), -1);
        due("goes(0, -1)", x.goes(0, -1), -1);
        twoShortestWays();
    }

    private static void twoShortestWays() {
        HeldPaths x = new HeldPaths();
        x.path(0, 0, 2, 8, 0);
        x.path(0, 1, 3, 8, 0);
        x.path(0, 0, 1, 8, 0);
        x.path(0, 2, 3, 8, 0);
        x.walker(0, 0);
        x.walker(3, 0);
        x.rule(0, 3);
        x.rule(0, 0);
        due("from 0 by way of 2", x.goes(0, 0), 0);
        due("from 3 by way of 1", x.goes(1, 1), 1);
    }

    private static void goingBack() {
        HeldPaths x = new HeldPaths();
        x.path(0, 0, 1, 8, 0);
        x.path(0, 1, 2, 4, 0);
        x.path(0, 2, 3, 7, 0);
        x.path(0, 0, 4, 8, 0);
        x.path(0, 4, 5, 4, 0);
        x.rule(2, 0);
        x.walker(0, 0);
        x.walker(3, 0);
        x.walker(5, 0);
        // 2 and 5 are two paths away and safe by 4 of 8, 3 by 3.5 of 8 only
        due("to 2, the least of the farthest", x.goes(0, 0), 0);
        due("from 3 to 2", x.goes(0, 1), 2);
        due("from 5 to 2", x.goes(0, 2), 4);
        x.put(2, 3);
        x.on(2, 2);
        due("3 is as safe as 2 now", x.goes(0, 1), -9);
        x.walker(7, 0);
        due("without such a clearing", x.goes(0, 3), -9);
        x.open(0, false);
        due("cut off from A", x.goes(0, 1), -9);
        due("to 5", x.goes(0, 0), 3);
    }

    private static void proving() {
        HeldPaths x = chain(4, 3, 4);
        x.walker(0, 0);
        due("prove(0)", x.prove(0), -1);
        due("prove(13)", x.prove(13), -1);
        due("prove(-1)", x.prove(-1), -1);
        due("many(3)", x.many(3), 0);
        due("prove(12)", x.prove(12), 12);
        due("nothing changes: z", x.seed(1), 1);
        due("nothing changes: the night", x.count(0), 0);
        due("nothing changes: paths", x.count(1), 15);
        for (int i = 0; i < 12; i++) {
            int set = x.night(1);
            due("row(" + i + ", 0)", x.row(i, 0), set);
            due("row(" + i + ", 1)", x.row(i, 1), Integer.bitCount(x.reach(0)));
        }
        due("prove(1)", x.prove(1), 1);
        due("many(3)", x.many(3), 1);
        due("prove(13)", x.prove(13), -1);
        due("many(3)", x.many(3), 1);
    }

    private static void rowsTold() {
        HeldPaths x = chain(2, 8, 0);
        due("row(0, 0)", x.row(0, 0), -9);
        x.prove(2);
        due("row(0, 0)", x.row(0, 0), 3);
        due("row(1, 1)", x.row(1, 1), 3);
        due("row(2, 0)", x.row(2, 0), -9);
        due("row(-1, 0)", x.row(-1, 0), -9);
        due("row(0, 2)", x.row(0, 2), -9);
        due("row(0, -1)", x.row(0, -1), -9);
        x.prove(1);
        due("row(1, 0)", x.row(1, 0), -9);
    }

    private static void rowsAltered() {
        HeldPaths x = chain(2, 8, 0);
        due("alterRow(0, 0, 1)", x.alterRow(0, 0, 1), -9);
        x.prove(2);
        due("alterRow(0, 0, -7)", x.alterRow(0, 0, -7), 3);
        due("alterRow(0, 0, 5)", x.alterRow(0, 0, 5), -7);
        due("alterRow(1, 1, 6)", x.alterRow(1, 1, 6), 3);
        due("row(0, 0)", x.row(0, 0), 5);
        due("row(0, 1)", x.row(0, 1), 3);
        due("row(1, 0)", x.row(1, 0), 3);
        due("row(1, 1)", x.row(1, 1), 6);
        due("alterRow(2, 0, 1)", x.alterRow(2, 0, 1), -9);
        due("alterRow(-1, 0, 1)", x.alterRow(-1, 0, 1), -9);
        due("alterRow(0, 2, 1)", x.alterRow(0, 2, 1), -9);
        due("alterRow(0, -1, 1)", x.alterRow(0, -1, 1), -9);
    }

    private static void judging() {
        HeldPaths x = chain(3, 4, 4);
        due("no rows", x.judge(), 0);
        x.prove(5);
        due("all right", x.judge(), 0);
        int was = x.alterRow(4, 1, 99);
        due("the last", x.judge(), 5);
        x.alterRow(2, 0, 99);
        due("the third", x.judge(), 3);
        x.alterRow(4, 1, was);
        due("the third, still", x.judge(), 3);
        due("nothing changes", x.seed(1), 1);
        x = chain(3, 8, 0);
        x.prove(3);
        due("all right", x.judge(), 0);
        x.night(1);
        due("the same from now on", x.judge(), 0);
        x.open(1, false);
        due("not from now on", x.judge(), 1);
        due("many(3)", x.many(3), 3);
    }

    private static void laying() {
        HeldPaths x = chain(3, 4, 4);
        due("lays(4)", x.lays(4), -1);
        due("lays(-1)", x.lays(-1), -1);
        due("lays(0)", x.lays(0), -11);
        for (int sort = 0; sort < 4; sort++) {
            x.sheet(sort, sort, 2);
            due("lays(" + sort + ")", x.lays(sort), sort == 2 ? 2 : -13);
        }
        due("pathOf(1, 3)", x.pathOf(1, 3), 0);
        due("pathOf(2, 3)", x.pathOf(2, 3), 4);
        x.sheet(2, 2, 40);
        x.write(2, 0, HIGH);
        x.write(2, 1, LOW);
        x.write(2, 2, 8);
        due("lays(2)", x.lays(2), 3);
        due("pathOf(0, 3)", x.pathOf(0, 3), 8);
        due("pathOf(1, 3)", x.pathOf(1, 3), 0);
        due("pathOf(2, 3)", x.pathOf(2, 3), 8);
        x.sheet(2, 2, 0);
        due("lays(2)", x.lays(2), 0);
        due("no paths", new HeldPaths().lays(0), -11);
    }

    private static void sheets() {
        HeldPaths x = new HeldPaths();
        due("sheet(4, 0, 1)", x.sheet(4, 0, 1), -1);
        due("sheet(-1, 0, 1)", x.sheet(-1, 0, 1), -1);
        due("sheet(0, 4, 1)", x.sheet(0, 4, 1), -1);
        due("sheet(0, -2, 1)", x.sheet(0, -2, 1), -1);
        due("sheet(0, 0, 41)", x.sheet(0, 0, 41), -1);
        due("sheet(0, 0, -1)", x.sheet(0, 0, -1), -14);
        due("sheet(0, 4, -1)", x.sheet(0, 4, -1), -1);
        due("sheet(0, 3, LOW)", x.sheet(0, 3, LOW), -14);
        due("item(0, 0, 0)", x.item(0, 0, 0), -11);
        for (int sort = 0; sort < 4; sort++) {
            due("sheet(0, " + sort + ", 40)", x.sheet(0, sort, 40), 1);
            due("item(0, " + sort + ", 39)", x.item(0, sort, 39), 0);
            due("item(0, " + sort + ", 40)", x.item(0, sort, 40), -12);
        }
        x.write(0, 0, 5);
        due("sheet(0, 0, -1)", x.sheet(0, 0, -1), -14);
        due("it is as it was", x.item(0, 3, 0), 5);
        due("sheet(0, 3, 0)", x.sheet(0, 3, 0), 1);
        due("item(0, 3, 0)", x.item(0, 3, 0), -12);
        due("sheet(0, -1, 99)", x.sheet(0, -1, 99), 1);
        due("item(0, 3, 0)", x.item(0, 3, 0), -11);
        due("sheet(0, -1, -99)", x.sheet(0, -1, -99), 1);
        due("sheet(3, 1, 1)", x.sheet(3, 1, 1), 1);
    }

    private static void writing() {
        HeldPaths x = new HeldPaths();
        due("write(4, 0, 1)", x.write(4, 0, 1), -1);
        due("write(-1, 0, 1)", x.write(-1, 0, 1), -1);
        due("write(0, 0, 1)", x.write(0, 0, 1), -11);
        int v = 0x12348abc;
        int[] narrowed = {(byte) v, (short) v, v, v};
        for (int sort = 0; sort < 4; sort++) {
            x.sheet(sort, sort, 2);
            due("write", x.write(sort, 1, v), 1);
            due("item", x.item(sort, sort, 1), narrowed[sort]);
            due("item", x.item(sort, sort, 0), 0);
            due("write", x.write(sort, 1, -1), 1);
            due("item", x.item(sort, sort, 1), -1);
            due("write(" + sort + ", 2, 1)", x.write(sort, 2, 1), -12);
            due("write(" + sort + ", -1, 1)", x.write(sort, -1, 1), -12);
        }
    }

    private static void items() {
        HeldPaths x = new HeldPaths();
        x.sheet(0, 1, 3);
        x.write(0, 2, -12);
        due("item(4, 1, 0)", x.item(4, 1, 0), -1);
        due("item(-1, 1, 0)", x.item(-1, 1, 0), -1);
        due("item(0, 4, 0)", x.item(0, 4, 0), -1);
        due("item(0, -1, 0)", x.item(0, -1, 0), -1);
        due("item(1, 4, 0)", x.item(1, 4, 0), -1);
        due("item(1, 1, 9)", x.item(1, 1, 9), -11);
        due("item(0, 0, 9)", x.item(0, 0, 9), -13);
        due("item(0, 2, 0)", x.item(0, 2, 0), -13);
        due("item(0, 1, 3)", x.item(0, 1, 3), -12);
        due("item(0, 1, -1)", x.item(0, 1, -1), -12);
        due("item(0, 1, 2)", x.item(0, 1, 2), -12);
        x.write(0, 2, 77);
        due("item(0, 1, 2)", x.item(0, 1, 2), 77);
    }

    private static void shelves() {
        HeldPaths x = chain(2, 8, 0);
        x.sheet(1, 0, 3);
        due("shelf(4, 2, 0)", x.shelf(4, 2, 0), -1);
        due("shelf(-1, 2, 0)", x.shelf(-1, 2, 0), -1);
        due("shelf(0, 3, 0)", x.shelf(0, 3, 0), -1);
        due("shelf(0, -1, 0)", x.shelf(0, -1, 0), -1);
        due("shelf(0, 0, 2)", x.shelf(0, 0, 2), -1);
        due("shelf(0, 0, -1)", x.shelf(0, 0, -1), -1);
        due("shelf(0, 1, 4)", x.shelf(0, 1, 4), -1);
        due("shelf(0, 1, -1)", x.shelf(0, 1, -1), -1);
        due("shelf(0, 0, 1)", x.shelf(0, 0, 1), 1);
        due("taken(0, 0)", x.taken(0, 0), 1);
        due("shelf(0, 0, 2)", x.shelf(0, 0, 2), -1);
        due("taken(0, 0)", x.taken(0, 0), 1);
        due("shelf(0, 1, 1)", x.shelf(0, 1, 1), 1);
        due("taken(0, 10)", x.taken(0, 10), 3);
        due("shelf(0, 1, 0)", x.shelf(0, 1, 0), 1);
        due("a missing sheet", x.taken(0, 10), -11);
        due("shelf(0, 0, 0)", x.shelf(0, 0, 0), 1);
        due("shelf(0, 2, 99)", x.shelf(0, 2, 99), 1);
        due("taken(0, 0)", x.taken(0, 0), -11);
    }

    private static void taking() {
        HeldPaths x = new HeldPaths();
        boolean[][] is = {
            {true, false, false, false, false, false}, {true, true, false, false, false, false},
            {true, false, true, false, false, false}, {true, true, false, true, false, false},
            {true, true, false, false, true, false}, {true, false, false, false, false, true}
        };
        for (int k = 0; k < 6; k++) {
            x.path(k, 0, 1, 0, 0);
            x.shelf(0, 0, k);
            for (int as = 0; as < 6; as++) {
                due("kind " + k + " taken for " + as, x.taken(0, as), is[k][as] ? k : -13);
            }
            for (int as = 10; as < 14; as++) {
                due("kind " + k + " taken for " + as, x.taken(0, as), -13);
            }
        }
        for (int sort = 0; sort < 4; sort++) {
            x.sheet(0, sort, sort * 10);
            x.shelf(1, 1, 0);
            for (int as = 0; as < 4; as++) {
                due("sort " + sort + " taken for " + as, x.taken(1, as + 10), sort == as ? sort * 10 : -13);
            }
            for (int as = 0; as < 6; as++) {
                due("sort " + sort + " taken for " + as, x.taken(1, as), -13);
            }
        }
        x.sheet(0, 0, 1);
        due("the shelf goes on holding the row that it took", x.taken(1, 13), 30);
        x.sheet(0, -1, 0);
        due("the shelf goes on holding the row that it took", x.taken(1, 13), 30);
        int[] bad = {-1, 6, 9, 14, LOW, HIGH, LOW + 9, LOW + 12};
        for (int as : bad) {
            due("taken(2, " + as + ")", x.taken(2, as), -1);
        }
        due("taken(4, 0)", x.taken(4, 0), -1);
        due("taken(-1, 0)", x.taken(-1, 0), -1);
        due("taken(2, 0)", x.taken(2, 0), -11);
        due("taken(2, 13)", x.taken(2, 13), -11);
    }

    /** Every act of every kind: paths 0 to 5 of kinds 0 to 5, STAY 7, 3, 8, 1, 6, 2. */
    private static HeldPaths things() {
        HeldPaths x = new HeldPaths();
        int[] stay = {7, 3, 8, 1, 6, 2};
        for (int k = 0; k < 6; k++) {
            x.path(k, 0, 1, stay[k], 0);
        }
        return x;
    }

    private static void dueAct(HeldPaths x, int path, int act, int want, int... bodies) {
        x.shelf(3, 0, path);
        due("act " + act + " of path " + path, x.act(3, act, 10), want);
        due("bodies of act " + act + " of path " + path, x.many(5), bodies.length);
        for (int i = 0; i < bodies.length; i++) {
            due("body " + i + " of act " + act + " of path " + path, x.trace(i), bodies[i]);
        }
        due("behind the last body", x.trace(bodies.length), -3);
    }

    private static void acting() {
        HeldPaths x = things();
        dueAct(x, 0, 0, 10, 10);
        dueAct(x, 0, 1, 20, 11, 10);
        dueAct(x, 0, 2, 1, 12);
        dueAct(x, 0, 3, 20 ^ 7, 13, 11, 10);
        dueAct(x, 1, 0, 11, 10);
        dueAct(x, 1, 1, 22 - 3, 20, 11, 10);
        dueAct(x, 1, 2, 5, 12);
        dueAct(x, 1, 3, 19 ^ 3, 13, 20, 11, 10);
        dueAct(x, 2, 0, 36, 30, 10);
        dueAct(x, 2, 1, 72, 11, 30, 10);
        dueAct(x, 2, 2, 1, 12);
        // shares(2) is 2 by 6
        dueAct(x, 2, 3, (72 ^ 8) + 0, 31, 13, 11, 30, 10, 12);
        x.sheet(0, 2, 3);
        x.write(0, 0, 7);
        x.write(0, 1, 3);
        x.write(0, 2, 3);
        x.lays(0);
        // shares(2) is 2 by 1
        dueAct(x, 2, 3, (72 ^ 3) + 2, 31, 13, 11, 30, 10, 12);
        dueAct(x, 3, 0, -13, 40, 10);
        // track: -26 - 1; leads(3) is -6
        dueAct(x, 3, 1, -33, 41, 20, 11, 40, 10, 40, 10);
        dueAct(x, 3, 2, -5, 12);
        dueAct(x, 3, 3, -33 ^ 1, 13, 41, 20, 11, 40, 10, 40, 10);
        dueAct(x, 4, 0, 10, 51, 10);
        dueAct(x, 4, 1, 14, 20, 11, 51, 10);
        // 12 by 2, ^ 1
        dueAct(x, 4, 2, 7, 50, 12);
        x.shelf(3, 0, 4);
        due("14 by 2, ^ 1", x.act(3, 2, 12), 6);
        due("15 by 2, ^ 1", x.act(3, 2, 13), 6);
        due("16 by 2, ^ 1", x.act(3, 2, 14), 9);
        dueAct(x, 4, 3, 14 ^ 6, 13, 20, 11, 51, 10);
        dueAct(x, 5, 0, 15, 10);
        dueAct(x, 5, 1, 30, 11, 10);
        // 10 by -3 is -3; leads(2) is 7
        dueAct(x, 5, 2, 4, 61, 12, 10);
        dueAct(x, 5, 3, (30 ^ 2) * 2, 60, 13, 11, 10);
        x.shelf(0, 0, 5);
        due("ints wrap", x.act(0, 0, HIGH), LOW + 4);
        due("ints wrap", x.act(0, 1, HIGH), 8);
    }

    private static void actingWrong() {
        HeldPaths x = things();
        x.sheet(0, 2, 3);
        x.shelf(0, 0, 1);
        x.shelf(1, 1, 0);
        x.shelf(2, 2, 0);
        int[][] none = {{4, 0}, {-1, 0}, {0, 4}, {0, -1}, {1, 0}, {2, 0}, {3, 0}, {LOW, HIGH}};
        for (int[] n : none) {
            x.act(0, 0, 5);
            due("many(5)", x.many(5), 1);
            due("act(" + n[0] + ", " + n[1] + ", 5)", x.act(n[0], n[1], 5), 0);
            due("no TRACE then", x.many(5), 0);
            due("no TRACE then", x.trace(0), -3);
        }
        x.sheet(0, 2, 6);
        for (int i = 0; i < 6; i++) {
            x.write(0, i, i);
        }
        x.lays(0);
        dueAct(x, 0, 2, -15, 12);
        dueAct(x, 1, 2, -15, 12);
        dueAct(x, 2, 3, -15, 31, 13, 11, 30, 10, 12);
        dueAct(x, 4, 2, -15, 50, 12);
        dueAct(x, 5, 2, -15, 61, 12);
        dueAct(x, 5, 3, (30 ^ 5) * 2, 60, 13, 11, 10);
        x.write(0, 1, 0);
        x.lays(0);
        x.shelf(0, 0, 1);
        due("the lowest int by -1 wraps", x.act(0, 2, LOW), LOW);
        told(x, "");
        due("no such path any more", x.act(0, 0, 5), 0);
        x.path(0, 0, 1, 0, 0);
        x.path(0, 0, 1, 0, 0);
        due("a path of that number is there again", x.act(0, 0, 5), 6);
    }

    private static void tracing() {
        HeldPaths x = things();
        due("trace(0)", x.trace(0), -3);
        x.shelf(0, 0, 4);
        x.act(0, 3, 1);
        int[] bodies = {13, 20, 11, 51, 10};
        for (int i = 0; i < 5; i++) {
            due("trace(" + i + ")", x.trace(i), bodies[i]);
        }
        due("trace(5)", x.trace(5), -3);
        due("trace(-1)", x.trace(-1), -3);
        due("trace(30)", x.trace(30), -3);
        due("trace(HIGH)", x.trace(HIGH), -3);
        x.act(0, 0, 1);
        due("the latest act alone", x.trace(2), -3);
    }

    private static void counting() {
        HeldPaths x = things();
        x.walker(0, 0);
        x.walker(1, 0);
        x.rule(0, 0);
        x.prove(3);
        x.feed(0, 4);
        x.shelf(0, 0, 0);
        x.act(0, 1, 1);
        int[] want = {6, 2, 1, 3, 4, 2};
        for (int what = 0; what < 6; what++) {
            due("many(" + what + ")", x.many(what), want[what]);
        }
        due("many(6)", x.many(6), -1);
        due("many(-1)", x.many(-1), -1);
        due("many(LOW)", x.many(LOW), -1);
    }

    private static void keeping() {
        HeldPaths x = chain(3, 4, 4);
        x.walker(0, 9);
        due("keep()", x.keep(), 1);
        due("nothing changes", x.many(0), 3);
        x.on(0, 0);
        x.path(1, 4, 5, 6, 7);
        due("keep()", x.keep(), 1);
        x.put(0, 7);
        x.path(2, 4, 5, 6, 7);
        due("the latest counts", x.again(), 4);
        due("walkerOf(0, 1)", x.walkerOf(0, 1), 0);
        due("keeping nothing is keeping", emptyKept(), 0);
    }

    private static int emptyKept() {
        HeldPaths x = new HeldPaths();
        x.keep();
        x.path(0, 0, 1, 1, 1);
        return x.again();
    }

    private static void comingAgain() {
        HeldPaths x = chain(3, 4, 4);
        due("again()", x.again(), -3);
        x.open(1, false);
        x.walker(0, 9);
        x.walker(3, 8);
        x.on(0, 0);
        x.rule(1, 2);
        x.rain(true);
        x.weigh(2, 7);
        x.night(2);
        x.seed(55);
        int there = x.count(1);
        x.keep();
        x.path(0, 6, 7, 0, 0);
        x.put(0, 5);
        x.put(1, 5);
        x.walker(4, 4);
        x.rule(2, 3);
        x.rain(false);
        x.weigh(2, 3);
        x.seed(66);
        x.night(5);
        x.prove(4);
        x.feed(0x20, 1);
        x.sheet(0, 2, 3);
        x.write(0, 0, 6);
        x.lays(0);
        x.shelf(0, 0, 3);
        x.shelf(1, 1, 0);
        x.act(0, 1, 1);
        for (int i = 0; i < 2; i++) {
            due("again()", x.again(), 3);
            due("walkers", x.many(1), 2);
            due("walkerOf(0, 1)", x.walkerOf(0, 1), 0);
            due("walkerOf(1, 0)", x.walkerOf(1, 0), 3);
            due("walkerOf(1, 2)", x.walkerOf(1, 2), 8);
            due("rules", x.many(2), 1);
            due("ruleOf(0, 0)", x.ruleOf(0, 0), 1);
            due("ruleOf(0, 1)", x.ruleOf(0, 1), 2);
            due("rain", x.rain(true), 0);
            due("weight", x.weigh(2, 1), 7);
            due("night", x.count(0), 2);
            due("there", x.count(1), there);
            due("z", x.seed(1), 55);
            due("STAY", x.pathOf(0, 3), 4);
            due("ROWS are as they were", x.many(3), 4);
            due("THE TAPE is as it was", x.many(4), 1);
            due("THE TRACE is as it was", x.many(5), 2);
            due("SHEETS are as they were", x.item(0, 2, 0), 6);
            due("SHELVES are as they were", x.taken(1, 12), 3);
            due("a path of that number is gone", x.taken(0, 0), -11);
            x.night(3);
            x.rain(false);
            x.path(0, 0, 1, 1, 1);
            x.walker(1, 1);
            x.rule(0, 0);
        }
        rulesAgain();
    }

    private static void rulesAgain() {
        HeldPaths x = new HeldPaths();
        x.keep();
        x.rule(3, 5);
        due("again()", x.again(), 0);
        due("many(2)", x.many(2), 0);
        x.rule(2, 6);
        x.keep();
        x.rule(1, 1);
        x.again();
        due("many(2)", x.many(2), 1);
        due("ruleOf(0, 0)", x.ruleOf(0, 0), 2);
        due("ruleOf(0, 1)", x.ruleOf(0, 1), 6);
    }
}
