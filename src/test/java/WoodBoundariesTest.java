import java.util.Arrays;
import java.util.List;

/** Promises 1 to 10 and the part 1 THE WOOD: each sentence that names a boundary, at it and on both of its sides. */
public final class WoodBoundariesTest {
    private static final int BAD = Due.BAD, FULL = Due.FULL, STATE = Due.STATE;
    private static final String[] KINDS = {"path", "track", "wall", "deer", "bog", "ride"};

    private static void due(String call, long got, long want) { Due.due(call, got, want); }

    public static void main(String[] args) {
        newObject();
        newObjectsApart();
        feeding();
        feedingFull();
        bytesOfEight();
        numbersInTexts();
        wordsInTexts();
        kindsInTexts();
        wrongWords();
        misspelt();
        cutTexts();
        everyByte();
        blanks();
        oneTooMany();
        longestTexts();
        woodByTextAlone();
        refusedWoods();
        paths();
        pathsTold();
        staysAtTheirEnds();
        opening();
        raining();
        weighing();
        walkers();
        walkersTold();
        Due.end();
    }

    // ---- 1

    private static void newObject() {
        Due.about("1: No PATHS, WALKERS, RULES; nothing is kept");
        HeldPaths x = new HeldPaths();
        for (int what = 0; what < 6; what++) {
            due("many(" + what + ")", x.many(what), 0);
        }
        for (int what = 0; what < 5; what++) {
            due("count(" + what + ")", x.count(what), 0);
        }
        due("pathOf(0, 0)", x.pathOf(0, 0), BAD);
        due("walkerOf(0, 0)", x.walkerOf(0, 0), BAD);
        due("ruleOf(0, 0)", x.ruleOf(0, 0), BAD);
        due("row(0, 0)", x.row(0, 0), -9);
        due("trace(0)", x.trace(0), -3);
        due("again()", x.again(), -3);
        due("RAIN: not at first", x.rain(false), 0);
        due("z: 1 at first", x.seed(1), 1);
        for (int c = 0; c < 8; c++) {
            due("WEIGHT: 1 at first", x.weigh(c, 1), 1);
            due("reach(" + c + ")", x.reach(c), 1 << c);
        }
        for (int i = 0; i < 4; i++) {
            due("SHEETS: missing at first", x.write(i, 0, 1), -11);
            due("SHEETS: missing at first", x.lays(i), -11);
            due("SHELVES: nothing at first", x.taken(i, 0), -11);
            due("SHELVES: nothing at first", x.taken(i, 10), -11);
            due("SHELVES: nothing at first", x.act(i, 0, 5), 0);
        }
    }

    private static void newObjectsApart() {
        Due.about("1: what one object is told another one doesn't know");
        HeldPaths other = Due.full();
        HeldPaths x = new HeldPaths();
        Due.same("a full object beside it", Due.all(x), Due.all(new HeldPaths()));
        due("again()", x.again(), -3);
        due("the other has its paths", other.many(0), 8);
    }

    // ---- 2

    private static void feeding() {
        Due.about("2: n bytes (1 to 8)");
        Due.range("feed(0, n)", HeldPaths::new, (x, n) -> x.feed(0, n), 1, 1, 8, 8);
        Due.range("feed(-1, n)", Due::taped, (x, n) -> x.feed(-1, n), 1, 22, 8, 29);
        Due.about("2: how many it has");
        HeldPaths x = new HeldPaths();
        int has = 0;
        for (int n = 1; n <= 8; n++) {
            has += n;
            due("feed(0, " + n + ")", x.feed(0, n), has);
            due("many(4)", x.many(4), has);
        }
    }

    /** So many bytes: one that makes a difference, and blanks. */
    private static HeldPaths taken(int bytes) {
        HeldPaths x = new HeldPaths();
        Due.feed(x, "weight 3 7;" + " ".repeat(bytes - 11));
        return x;
    }

    private static void feedingFull() {
        Due.about("2: FULL: more than 240");
        for (int i = 1; i <= 8; i++) {
            int n = i;
            HeldPaths x = taken(240 - n);
            due("feed, " + n + " to 240", x.feed(0x2020202020202020L, n), 240);
            due("many(4)", x.many(4), 240);
            due("wood()", x.wood(), 0);
            due("weigh(3, 0)", x.weigh(3, 0), 7);
            Due.refused("feed, " + n + " to 241", () -> taken(241 - n), y -> y.feed(0x3b3b3b3b3b3b3b3bL, n), FULL);
            Due.refused("feed, " + n + " when full", () -> taken(240), y -> y.feed(0, n), FULL);
        }
        Due.about("2: of several the first named: BAD, then FULL");
        Due.outside("feed(0, n)", () -> taken(240), (x, n) -> x.feed(0, n), 1, 8, BAD);
        Due.outside("feed(0, n)", Due::full, (x, n) -> x.feed(0, n), 1, 8, BAD);
        HeldPaths x = taken(240);
        x.wood();
        due("wood() makes room", x.feed(0x20, 1), 1);
    }

    private static void bytesOfEight() {
        Due.about("2: the lowest of eight first");
        for (int i = 0; i < 8; i++) {
            for (int b : new int[] {';', 0, 127, 128, 255}) {
                long blanks = 0x2020202020202020L & ~(255L << 8 * i);
                HeldPaths x = new HeldPaths();
                due("feed, byte " + i + " is " + b, x.feed(blanks | (long) b << 8 * i, 8), 8);
                due("wood()", x.wood(), -100 - i);
                x.feed(blanks | (long) b << 8 * i, i + 1);
                due("wood(), of " + (i + 1) + " bytes", x.wood(), -100 - i);
                if (i > 0) {
                    x.feed(blanks | (long) b << 8 * i, i);
                    due("wood(), of the " + i + " bytes before", x.wood(), 0);
                }
            }
        }
    }

    // ---- 3: the text

    private static void right(String text, int paths) {
        HeldPaths x = Due.grown();
        due("wood() of " + text, Due.told(x, text), paths);
        due("PATHS of " + text, x.many(0), paths);
        due("ROWS behind " + text, x.many(3), 0);
        due("THE TAPE behind " + text, x.many(4), 0);
    }

    /** A text with its FAULT where ^ stands: nothing but THE TAPE changes by it. */
    private static void fault(String marked) {
        int place = marked.indexOf('^');
        String text = marked.replace("^", "");
        HeldPaths x = Due.grown();
        due("wood() of " + marked, Due.told(x, text), -100 - place);
        Due.same("wood() of " + marked, Due.all(x), Due.all(Due.grown()));
        x = Due.grown();
        Due.told(x, text);
        due("THE TAPE is used up by " + marked, x.wood(), 0);
        x = Due.grown();
        Due.told(x, text);
        Due.same("wood() of " + marked + ", then again()", Due.behindAgain(x), Due.behindAgain(Due.grown()));
    }

    private static void numbersInTexts() {
        for (String k : KINDS) {
            Due.about("3: " + k + ": its ends (CLEARINGS 0 to 7), STAY, COME (0 to 8)");
            right(k + " 0 7 stay 0 come 8;", 1);
            right(k + " 7 0 stay 8 come 0;", 1);
            right(k + " 00 07 stay 08 come 00;", 1);
            for (String no : new String[] {"8", "9", "08", "10", "77", "99", "000", "001", "007", "0000000001"}) {
                fault(k + " ^" + no + " 2 stay 1 come 1;");
                fault(k + " 2 ^" + no + " stay 1 come 1;");
            }
            for (String no : new String[] {"9", "09", "10", "88", "99", "000", "008", "0000000001"}) {
                fault(k + " 0 1 stay ^" + no + " come 1;");
                fault(k + " 0 1 stay 1 come ^" + no + ";");
            }
        }
        Due.about("3: unlike CLEARINGS: the second end if it is the first");
        for (int c = 0; c < 8; c++) {
            fault("path " + c + " ^" + c + " stay 1 come 1;");
            fault("ride 0" + c + " ^" + c + " stay 1 come 1;");
            fault("wall " + c + "  ^0" + c + " stay 1 come 1;");
            right("path " + c + " " + (c + 1) % 8 + " stay 1 come 1;", 1);
        }
        Due.about("3: walker: a CLEARING, PAY (0 to 99)");
        for (String no : new String[] {"8", "08", "10", "99", "000", "007"}) {
            fault("walker ^" + no + ";");
            fault("weight ^" + no + " 1;");
        }
        for (String no : new String[] {"100", "000", "099", "9999999999"}) {
            fault("walker 0 pay ^" + no + ";");
        }
        for (String no : new String[] {"10", "99", "000", "009"}) {
            fault("weight 0 ^" + no + ";");
        }
        walkersAndWeightsInTexts();
    }

    private static void walkersAndWeightsInTexts() {
        HeldPaths x = new HeldPaths();
        Due.told(x, "walker 0 pay 0;walker 7 pay 99;walker 07 pay 09;walker 00;");
        int[][] men = {{0, 0}, {7, 99}, {7, 9}, {0, 0}};
        for (int w = 0; w < 4; w++) {
            due("CLEARING of " + w, x.walkerOf(w, 0), men[w][0]);
            due("PAY of " + w, x.walkerOf(w, 2), men[w][1]);
        }
        Due.about("3: weight: a CLEARING, its WEIGHT (0 to 9)");
        Due.told(x, "weight 0 0;weight 7 9;weight 03 08;");
        int[] weights = {0, 1, 1, 8, 1, 1, 1, 9};
        for (int c = 0; c < 8; c++) {
            due("WEIGHT of " + c, x.weigh(c, 1), weights[c]);
        }
    }

    private static void wordsInTexts() {
        Due.about("3: NAMES are rows of letters as long as they go");
        fault("^paths 0 1 stay 1 come 1;");
        fault("^pathtrack 0 1 stay 1 come 1;");
        fault("^walkerpay 1;");
        fault("^rainrain;");
        fault("^a;");
        fault("^z;");
        fault("path 0 1 ^staycome 1;");
        fault("path 0 1 ^stays 1 come 1;");
        fault("path 0 1 stay 1 ^comes 1;");
        fault("path 0 1 stay 1 come 1 ^gonegone;");
        fault("path 0 1 stay 1 come 1 ^goner;");
        fault("walker 0 ^pays 1;");
        Due.about("3: NAMES are of letters a to z");
        fault("^Path 0 1 stay 1 come 1;");
        fault("^paTh 0 1 stay 1 come 1;");
        fault("rain;^RAIN;");
        fault("path 0 1 ^Stay 1 come 1;");
        Due.about("3: NUMBERS are rows of digits as long as they go");
        fault("weight 01^;");
        fault("path 01 ^stay 1 come 1;");
        fault("weight ^012 3;");
        fault("walker 0 ^1;");
        fault("path 0 1 ^2 stay 1 come 1;");
        fault("path 0 1 stay 1 ^2 come 1;");
        fault("path 0 1 stay 1 come 1 ^2;");
        fault("weight 0 1 ^2;");
        fault("path ^-1 0 stay 1 come 1;");
        fault("path ^+1 0 stay 1 come 1;");
        fault("weight 0 1^.5;");
        Due.about("3: gone: not there");
        HeldPaths x = new HeldPaths();
        due("wood()", Due.told(x, "path 0 1 stay 1 come 1 gone;path 0 1 stay 1 come 1;wall 0 1 stay 1 come 1 gone;"), 3);
        due("there", x.count(1), 2);
        fault("path 0 1 stay 1 come 1 gone ^gone;");
        fault("path 0 1 stay 1 ^gone come 1;");
        fault("walker 0 ^gone;");
        fault("rain ^gone;");
    }

    private static void kindsInTexts() {
        Due.about("3: KIND (path | track | wall | deer | bog | ride): its ends, STAY, COME; gone: not there");
        for (int kind = 0; kind < 6; kind++) {
            for (int there = 0; there < 2; there++) {
                HeldPaths x = new HeldPaths();
                due(KINDS[kind], Due.told(x, KINDS[kind] + " 6 2 stay 5 come 3" + (there == 0 ? " gone;" : ";")), 1);
                int[] told = {kind, 6, 2, 5, 3, there};
                for (int what = 0; what < 6; what++) {
                    due(KINDS[kind] + ": pathOf(0, " + what + ")", x.pathOf(0, what), told[what]);
                }
            }
        }
    }

    /** Every NAME with one letter of it another one. */
    private static void misspelt() {
        Due.about("3: a NAME that is none");
        String[] things = {
            "path 0 1 stay 2 come 3 gone ;", "track 0 1 stay 2 come 3 ;", "wall 0 1 stay 2 come 3 ;",
            "deer 0 1 stay 2 come 3 ;", "bog 0 1 stay 2 come 3 ;", "ride 0 1 stay 2 come 3 ;",
            "walker 7 pay 12 ;", "rain ;", "weight 7 9 ;"
        };
        for (String thing : things) {
            for (int i = 0; i < thing.length(); i++) {
                if (Character.isLetter(thing.charAt(i))) {
                    int start = thing.lastIndexOf(' ', i) + 1;
                    String wrong = thing.substring(0, i) + (thing.charAt(i) == 'z' ? 'a' : 'z') + thing.substring(i + 1);
                    fault(wrong.substring(0, start) + "^" + wrong.substring(start));
                }
            }
        }
    }

    /** At each place of each thing every word that can't stand there. */
    private static void wrongWords() {
        Due.about("3: the first NAME, NUMBER or other byte that can't stand there");
        List<String> words = Arrays.asList("path", "walker", "rain", "weight", "stay", "come", "gone", "pay", "x", "5", ";", "-");
        String[] things = {"deer 0 1 stay 2 come 3 gone ;", "walker 7 pay 12 ;", "rain ;", "weight 7 9 ;"};
        String[][] alsoRight = {
            {"path", "5", "5", "", "5", "", "5", ";", ""}, {"path", "5", ";", "5", ""}, {"path", ""}, {"path", "5", "5", ""}
        };
        for (int t = 0; t < things.length; t++) {
            String[] parts = things[t].split(" ");
            StringBuilder before = new StringBuilder("rain; ");
            for (int k = 0; k < parts.length; k++) {
                for (String word : words) {
                    boolean head = k == 0 && words.indexOf(word) < 4;
                    if (!head && !word.equals(parts[k]) && !word.equals(alsoRight[t][k])) {
                        fault(before + "^" + word + " ;");
                        fault(before + "   ^" + word);
                    }
                }
                before.append(parts[k]).append(' ');
            }
        }
    }

    /** Every beginning of every thing: more must come, or its last word is none. */
    private static void cutTexts() {
        Due.about("3: or the end (how many bytes there are), if more must come");
        String[] things = {
            "path 0 1 stay 2 come 3 gone ;", "track 0 1 stay 2 come 3 gone ;", "wall 0 1 stay 2 come 3 gone ;",
            "deer 0 1 stay 2 come 3 gone ;", "bog 0 1 stay 2 come 3 gone ;", "ride 0 1 stay 2 come 3 gone ;",
            "walker 7 pay 12 ;", "rain ;", "weight 7 9 ;"
        };
        for (String thing : things) {
            String[] parts = thing.split(" ");
            String before = "rain ; ";
            for (int k = 0; k < parts.length; k++) {
                boolean isName = Character.isLetter(parts[k].charAt(0));
                for (int n = 1; n < parts[k].length() && isName; n++) {
                    fault(before + "^" + parts[k].substring(0, n));
                    fault(before + "^" + parts[k].substring(0, n) + "  ");
                }
                if (k < parts.length - 1) {
                    fault(before + parts[k] + "^");
                    fault(before + parts[k] + " ^");
                    fault(before + parts[k] + "    ^");
                }
                before += parts[k] + " ";
            }
            right(before, thing.contains("stay") ? 1 : 0);
        }
    }

    private static void everyByte() {
        Due.about("3: every byte that may come");
        for (int b = 0; b < 256; b++) {
            char sign = (char) b;
            boolean letter = sign >= 'a' && sign <= 'z', digit = sign >= '0' && sign <= '9', blank = sign == ' ';
            HeldPaths x = new HeldPaths();
            due("wood() of rain; and byte " + b, Due.told(x, "rain;" + sign), blank ? 0 : -105);
            due("wood() of byte " + b + " and rain;", Due.told(x, sign + "rain;"), blank ? 0 : -100);
            due("wood() of byte " + b + " alone", Due.told(x, "" + sign), blank ? 0 : -100);
            int place = letter ? -100 : sign == ';' ? -105 : -104;
            due("wood() of rain, byte " + b + " and ;", Due.told(x, "rain" + sign + ";"), blank ? 0 : place);
            place = digit ? -105 : -106;
            due("wood() of path 0, byte " + b, Due.told(x, "path 0" + sign + "1 stay 1 come 1;"), blank ? 1 : place);
            place = digit ? -114 : -115;
            due("wood() of stay 1, byte " + b, Due.told(x, "path 0 1 stay 1" + sign + "come 1;"), blank ? 1 : place);
        }
    }

    private static void blanks() {
        Due.about("3: blanks (32) part them, and stand elsewhere as one likes");
        right("", 0);
        right(" ", 0);
        right(" ".repeat(240), 0);
        right("   path   0   1   stay   2   come   3   gone   ;   ", 1);
        right("  walker   0   pay   1   ;   walker  1  ;  ", 0);
        right("  rain  ;   weight   0   1   ;   ", 0);
        right("path 0 1 stay 2 come 3;rain;walker 0;weight 1 2;path 0 1 stay 2 come 3 gone;", 2);
        fault("^p ath 0 1 stay 2 come 3;");
        fault("path 0 1 ^st ay 2 come 3;");
        fault("path 0 1 stay 0 ^0 come 3;");
        fault("walker 0 pay 1 ^0;");
    }

    private static void oneTooMany() {
        String one = "path 0 1 stay 2 come 3;";
        Due.about("3: PATHS, 8 at most: the first NAME of one too many");
        for (int n = 0; n <= 8; n++) {
            right(one.repeat(n), n);
        }
        for (String k : KINDS) {
            fault(one.repeat(8) + "^" + k + " 0 1 stay 2 come 3;");
            fault(one.repeat(8) + " ^" + k);
            fault(one.repeat(8) + "rain;  ^" + k + " 9 9");
        }
        fault(one.repeat(8) + "^paths");
        fault(one.repeat(7) + "wall 0 1 stay 2 come 3 gone;^path 0 1 stay 2 come 3;");
        fault(one.repeat(7) + "path 0 ^0 stay 2 come 3;" + one);
        Due.about("3: WALKERS, 4 at most: the first NAME of one too many");
        for (int n = 0; n <= 4; n++) {
            right("walker 7;".repeat(n), 0);
        }
        fault("walker 7;".repeat(4) + "^walker 7;");
        fault("walker 7;".repeat(4) + "rain; ^walker");
        fault("walker 7;".repeat(4) + "^walker 8;");
        fault("walker 7;".repeat(3) + "walker ^8;walker 7;");
        right(one.repeat(8) + "walker 7;".repeat(4) + "rain;weight 7 9;", 8);
        Due.about("3: of weights and rain there may be any number");
        right("weight 0 1;".repeat(21), 0);
        right("rain;".repeat(48), 0);
    }

    private static void longestTexts() {
        Due.about("3: THE TAPE takes bytes, 240 at most");
        right(" ".repeat(217) + "path 0 1 stay 2 come 3;", 1);
        right("path 0 1 stay 2 come 3;" + " ".repeat(217), 1);
        right("path 0 1 stay 2 come 3" + " ".repeat(217) + ";", 1);
        fault(" ".repeat(239) + "^;");
        fault(" ".repeat(239) + "^p");
        fault(" ".repeat(236) + "rain^");
        fault(" ".repeat(234) + "rain  ^");
        fault("^" + "p".repeat(240));
        fault("^" + "0".repeat(240));
        fault(" ".repeat(233) + "walker ^");
    }

    private static void woodByTextAlone() {
        Due.about("3: It is THE WOOD by it alone: RAIN if it tells it");
        for (boolean was : new boolean[] {false, true}) {
            HeldPaths x = new HeldPaths();
            x.rain(was);
            Due.told(x, "path 0 1 stay 1 come 1;");
            due("RAIN that was " + was + ", not told", x.rain(false), 0);
            x.rain(was);
            Due.told(x, "rain;");
            due("RAIN that was " + was + ", told", x.rain(true), 0);
        }
        Due.about("3: It is THE WOOD by it alone");
        HeldPaths x = Due.full();
        x.wood();
        x.weigh(2, 9);
        x.weigh(5, 0);
        x.night(7);
        x.prove(12);
        x.seed(-55);
        due("wood()", Due.told(x, "bog 5 6 stay 7 come 8 gone;walker 4;weight 5 3;"), 1);
        int[] path = {4, 5, 6, 7, 8, 0, 8, 8, 0};
        for (int what = 0; what < 9; what++) {
            due("pathOf(0, " + what + ")", x.pathOf(0, what), path[what]);
        }
        due("no other PATH", x.pathOf(1, 0), BAD);
        due("WALKERS", x.many(1), 1);
        due("nobody is ON a PATH", x.count(2), 0);
        due("WALKER 0 is in 4", x.walkerOf(0, 0), 4);
        due("PAY 0 if not told", x.walkerOf(0, 2), 0);
        due("WEIGHTS 1 if not told", x.weigh(2, 1), 1);
        due("WEIGHT told", x.weigh(5, 1), 3);
        due("NIGHT 0", x.count(0), 0);
        due("There are no ROWS then", x.many(3), 0);
        due("There are no ROWS then", x.row(0, 0), -9);
        due("RULES stay", x.many(2), 4);
        due("RULES stay", x.ruleOf(3, 0), 3);
        due("RULES stay", x.ruleOf(3, 1), 4);
        due("z stays", x.seed(0), -55);
        due("what is kept stays", x.again(), 8);
        Due.about("3: wood() uses THE TAPE up");
        Due.feed(x, "walker 1;");
        due("wood()", x.wood(), 0);
        due("many(4)", x.many(4), 0);
        due("WALKERS", x.many(1), 1);
        x.path(0, 0, 1, 8, 8);
        due("wood() of nothing", x.wood(), 0);
        due("WALKERS", x.many(1), 0);
        due("PATHS that are there", x.count(1), 0);
        due("night(1)", x.night(1), 0);
        due("feed()", x.feed(0x20, 1), 1);
    }

    private static void refusedWoods() {
        Due.about("3: a refused wood() changes nothing, but that THE TAPE is used up");
        String[] texts = {"path", "walker 0;path 0 1 stay 1 come 1;rain;weight 3 3;;", "path 0 1 stay 1 come 1;".repeat(9)};
        for (String text : texts) {
            HeldPaths x = Due.full();
            x.wood();
            x.night(20);
            x.prove(7);
            HeldPaths y = Due.full();
            y.wood();
            y.night(20);
            y.prove(7);
            due("wood() is refused", Due.told(x, text) <= -100 ? 1 : 0, 1);
            Due.same("wood() of " + text, Due.all(x), Due.all(y));
            due("the bytes are gone", x.feed(0x3b6e696172L, 5), 5);
            due("and not read again", x.wood(), 0);
        }
    }

    // ---- 4, 5

    private static void paths() {
        Due.about("4: KIND 0 to 5; CLEARINGS 0 to 7; STAY, COME 0 to 8");
        Due.range("path(kind, ..)", Due::taped, (x, v) -> x.path(v, 0, 1, 1, 1), 0, 6, 5, 6);
        Due.range("path(0, a, ..)", Due::taped, (x, v) -> x.path(0, v, 3, 1, 1), 0, 6, 7, 6);
        Due.range("path(0, 3, b, ..)", Due::taped, (x, v) -> x.path(0, 3, v, 1, 1), 0, 6, 7, 6);
        Due.range("path(.., stay, 1)", Due::taped, (x, v) -> x.path(0, 0, 1, v, 1), 0, 6, 8, 6);
        Due.range("path(.., come)", Due::taped, (x, v) -> x.path(0, 0, 1, 1, v), 0, 6, 8, 6);
        Due.about("4: from a CLEARING to another one");
        for (int i = 0; i < 8; i++) {
            int c = i;
            Due.refused("path(0, " + c + ", " + c + ", 1, 1)", Due::taped, x -> x.path(0, c, c, 1, 1), BAD);
        }
        Due.about("4: PATHS, 8 at most, numbered as they come; there");
        HeldPaths x = new HeldPaths();
        for (int p = 0; p < 8; p++) {
            due("path()", x.path(p % 6, p, 7 - p, p, 8 - p), p);
            due("there", x.count(1), (2 << p) - 1);
        }
        for (int p = 0; p < 8; p++) {
            int[] told = {p % 6, p, 7 - p, p, 8 - p, 1};
            for (int what = 0; what < 6; what++) {
                due("pathOf(" + p + ", " + what + ")", x.pathOf(p, what), told[what]);
            }
        }
        Due.refused("path(), the ninth", Due::full, y -> y.path(0, 0, 1, 1, 1), FULL);
        Due.about("4: of several the first named: BAD, then FULL");
        Due.outside("path(kind, ..)", Due::full, (y, v) -> y.path(v, 0, 1, 1, 1), 0, 5, BAD);
        Due.outside("path(0, a, ..)", Due::full, (y, v) -> y.path(0, v, 1, 1, 1), 0, 7, BAD);
        Due.outside("path(0, 0, b, ..)", Due::full, (y, v) -> y.path(0, 0, v, 1, 1), 0, 7, BAD);
        Due.outside("path(.., stay, 1)", Due::full, (y, v) -> y.path(0, 0, 1, v, 1), 0, 8, BAD);
        Due.outside("path(.., come)", Due::full, (y, v) -> y.path(0, 0, 1, 1, v), 0, 8, BAD);
        Due.refused("path(0, 4, 4, 1, 1)", Due::full, y -> y.path(0, 4, 4, 1, 1), BAD);
        Due.about("4: PATHS that a text told count, too");
        x = new HeldPaths();
        Due.told(x, "path 0 1 stay 1 come 1 gone;".repeat(7));
        due("the eighth", x.path(0, 0, 1, 1, 1), 7);
        due("the ninth", x.path(0, 0, 1, 1, 1), FULL);
        due("there", x.count(1), 128);
    }

    private static void pathsTold() {
        Due.about("5: BAD: there is no such PATH, or another what");
        Due.range("pathOf(path, 3)", Due::taped, (x, v) -> x.pathOf(v, 3), 0, 4, 5, 2);
        Due.range("pathOf(path, 3)", Due::full, (x, v) -> x.pathOf(v, 3), 0, 0, 7, 7);
        Due.range("pathOf(1, what)", Due::taped, (x, v) -> x.pathOf(1, v), 0, 1, 8, 2);
        for (int i = 0; i < 9; i++) {
            int what = i;
            Due.refused("pathOf(0, " + what + ")", HeldPaths::new, x -> x.pathOf(0, what), BAD);
        }
        Due.about("5: WALKERS ON it (a set)");
        HeldPaths x = Due.side(2, 0, 0);
        due("nobody", x.pathOf(0, 8), 0);
        for (int w = 0; w < 4; w++) {
            x.walker(w % 2, 0);
            due("one more who is at an end", x.pathOf(0, 8), (1 << w) - 1);
            x.on(w, 0);
            due("one more who is ON it", x.pathOf(0, 8), (2 << w) - 1);
            due("nobody ON the other", x.pathOf(1, 8), 0);
        }
        x.put(1, 0);
        due("all but WALKER 1", x.pathOf(0, 8), 13);
    }

    private static HeldPaths one(int kind, int stay, int come, boolean wet) {
        HeldPaths x = new HeldPaths();
        x.path(kind, 2, 5, stay, come);
        x.rain(wet);
        return x;
    }

    private static void staysAtTheirEnds() {
        Due.about("5: track: STAY and 2, 8 at most");
        due("STAY 5", one(1, 5, 0, false).pathOf(0, 6), 7);
        due("STAY 6", one(1, 6, 0, false).pathOf(0, 6), 8);
        due("STAY 7", one(1, 7, 0, false).pathOf(0, 6), 8);
        due("STAY 8", one(1, 8, 0, false).pathOf(0, 6), 8);
        Due.about("5: deer: half of what a track's are (cut)");
        int[] half = {1, 1, 2, 2, 3, 3, 4, 4, 4};
        for (int stay = 0; stay <= 8; stay++) {
            due("STAY " + stay, one(3, stay, 0, false).pathOf(0, 6), half[stay]);
        }
        Due.about("5: bog: as a track's, in RAIN 3 less, 0 at least");
        int[] wet = {0, 0, 1, 2, 3, 4, 5, 5, 5};
        for (int stay = 0; stay <= 8; stay++) {
            due("in RAIN, STAY " + stay, one(4, stay, 0, true).pathOf(0, 6), wet[stay]);
            due("STAY " + stay, one(4, stay, 0, false).pathOf(0, 6), Math.min(8, stay + 2));
        }
        Due.about("5: wall: 8; COMES 0");
        due("STAYS", one(2, 0, 8, true).pathOf(0, 6), 8);
        due("COMES", one(2, 0, 8, false).pathOf(0, 7), 0);
        Due.about("5: deer: COME and 2, 8 at most");
        due("COME 5", one(3, 0, 5, false).pathOf(0, 7), 7);
        due("COME 6", one(3, 0, 6, false).pathOf(0, 7), 8);
        due("COME 7", one(3, 0, 7, false).pathOf(0, 7), 8);
        due("COME 8", one(3, 0, 8, false).pathOf(0, 7), 8);
        Due.about("5: bog: COME, in RAIN 0");
        due("COME 8", one(4, 0, 8, false).pathOf(0, 7), 8);
        due("COME 8 in RAIN", one(4, 0, 8, true).pathOf(0, 7), 0);
        Due.about("5: ride: 8 if some WALKER is in a CLEARING at one of its ends, else STAY");
        for (int c = 0; c < 8; c++) {
            HeldPaths x = one(5, 3, 4, false);
            x.walker(c, 0);
            due("WALKER in " + c, x.pathOf(0, 6), c == 2 || c == 5 ? 8 : 3);
            due("COMES are COME", x.pathOf(0, 7), 4);
        }
        HeldPaths x = one(5, 3, 4, false);
        for (int c : new int[] {0, 1, 7, 5}) {
            due("before the last one", x.pathOf(0, 6), 3);
            x.walker(c, 0);
        }
        due("the last one is at an end", x.pathOf(0, 6), 8);
        x.on(3, 0);
        due("who is ON it is in no CLEARING", x.pathOf(0, 6), 3);
        Due.about("5: no other KIND minds WALKERS or RAIN");
        for (int kind = 0; kind < 4; kind++) {
            x = one(kind, 3, 3, true);
            x.walker(2, 0);
            due("STAYS of KIND " + kind, x.pathOf(0, 6), new int[] {3, 5, 8, 2}[kind]);
            due("COMES of KIND " + kind, x.pathOf(0, 7), new int[] {3, 3, 0, 5}[kind]);
        }
    }

    // ---- 6 to 10

    private static void opening() {
        Due.about("6: BAD: there is no such PATH");
        Due.range("open(path, false)", Due::taped, (x, v) -> x.open(v, false), 0, 1, 5, 1);
        Due.outside("open(path, true)", Due::taped, (x, v) -> x.open(v, true), 0, 5, BAD);
        Due.refused("open(0, true)", HeldPaths::new, x -> x.open(0, true), BAD);
        Due.about("6: 1 if that is new, else 0");
        HeldPaths x = Due.side(8, 0, 0);
        for (int p = 0; p < 8; p++) {
            due("it is there", x.open(p, true), 0);
            due("it goes", x.open(p, false), 1);
            due("others are as they were", x.count(1), 255 & ~(1 << p));
            due("it is gone", x.open(p, false), 0);
            due("it comes", x.open(p, true), 1);
            due("others are as they were", x.count(1), 255);
        }
        Due.about("6: STATE: somebody is ON it");
        Due.refused("open(1, false)", Due::taped, y -> y.open(1, false), STATE);
        Due.refused("open(1, true)", Due::taped, y -> y.open(1, true), STATE);
        x = Due.side(2, 0, 0);
        x.walker(0, 0);
        x.walker(1, 0);
        x.on(0, 0);
        x.on(1, 0);
        due("two are ON it", x.open(0, false), STATE);
        due("nobody is ON the other, though at its ends", x.open(1, false), 1);
        x.off(0, 0);
        due("one is ON it", x.open(0, false), STATE);
        x.put(1, 0);
        due("nobody is", x.open(0, false), 1);
        due("nobody can be", x.on(1, 0), STATE);
    }

    private static void raining() {
        Due.about("7: 1 if that is new, else 0");
        HeldPaths x = new HeldPaths();
        due("not at first", x.rain(false), 0);
        due("it rains", x.rain(true), 1);
        due("it goes on", x.rain(true), 0);
        due("it ends", x.rain(false), 1);
        due("it has ended", x.rain(false), 0);
    }

    private static void weighing() {
        Due.about("8: WEIGHT of a CLEARING (0 to 9)");
        Due.range("weigh(clearing, 5)", Due::taped, (x, v) -> x.weigh(v, 5), 0, 1, 7, 1);
        Due.range("weigh(3, v)", Due::taped, (x, v) -> x.weigh(3, v), 0, 9, 9, 9);
        Due.about("8: becomes v: what it was");
        HeldPaths x = new HeldPaths();
        for (int c = 0; c < 8; c++) {
            due("weigh(" + c + ", 0)", x.weigh(c, 0), 1);
            due("weigh(" + c + ", 9)", x.weigh(c, 9), 0);
            due("weigh(" + c + ", " + c + ")", x.weigh(c, c), 9);
        }
        for (int c = 0; c < 8; c++) {
            due("each has its own", x.weigh(c, 1), c);
        }
    }

    private static void walkers() {
        Due.about("9: in a CLEARING (0 to 7); PAY (0 to 99)");
        Due.range("walker(clearing, 1)", Due::taped, (x, v) -> x.walker(v, 1), 0, 3, 7, 3);
        Due.range("walker(1, pay)", Due::taped, (x, v) -> x.walker(1, v), 0, 3, 99, 3);
        Due.about("9: WALKERS, 4 at most, numbered as they come");
        HeldPaths x = new HeldPaths();
        for (int w = 0; w < 4; w++) {
            due("walker()", x.walker(7 - w, 99 - w), w);
            due("many(1)", x.many(1), w + 1);
        }
        for (int w = 0; w < 4; w++) {
            due("CLEARING of " + w, x.walkerOf(w, 0), 7 - w);
            due("PATH of " + w, x.walkerOf(w, 1), -9);
            due("PAY of " + w, x.walkerOf(w, 2), 99 - w);
        }
        Due.refused("walker(), the fifth", Due::full, y -> y.walker(0, 0), FULL);
        Due.about("9: of several the first named: BAD, then FULL");
        Due.outside("walker(clearing, 1)", Due::full, (y, v) -> y.walker(v, 1), 0, 7, BAD);
        Due.outside("walker(1, pay)", Due::full, (y, v) -> y.walker(1, v), 0, 99, BAD);
        Due.about("9: WALKERS that a text told count, too");
        x = new HeldPaths();
        Due.told(x, "walker 0;".repeat(3));
        due("the fourth", x.walker(1, 1), 3);
        due("the fifth", x.walker(1, 1), FULL);
    }

    private static void walkersTold() {
        Due.about("10: BAD: there is no such WALKER, or another what");
        Due.range("walkerOf(walker, 2)", Due::taped, (x, v) -> x.walkerOf(v, 2), 0, 9, 2, 0);
        Due.range("walkerOf(walker, 2)", Due::full, (x, v) -> x.walkerOf(v, 2), 0, 90, 3, 93);
        Due.range("walkerOf(1, what)", Due::taped, (x, v) -> x.walkerOf(1, v), 0, -9, 2, 99);
        for (int i = 0; i < 3; i++) {
            int what = i;
            Due.refused("walkerOf(0, " + what + ")", HeldPaths::new, x -> x.walkerOf(0, what), BAD);
        }
        Due.about("10: CLEARING (-9: ON a PATH), the PATH (-9: in a CLEARING)");
        HeldPaths x = Due.side(1, 0, 0);
        x.walker(0, 5);
        due("in 0", x.walkerOf(0, 0), 0);
        due("ON none", x.walkerOf(0, 1), -9);
        x.on(0, 0);
        due("in none", x.walkerOf(0, 0), -9);
        due("ON 0", x.walkerOf(0, 1), 0);
        x.off(0, 0);
        due("in 0", x.walkerOf(0, 0), 0);
        due("ON none", x.walkerOf(0, 1), -9);
        due("PAY", x.walkerOf(0, 2), 5);
    }
}
