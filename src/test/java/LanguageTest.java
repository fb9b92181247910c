import java.io.IOException;
import java.lang.management.ManagementFactory;
import java.lang.reflect.InvocationTargetException;
import java.lang.reflect.Method;
import java.lang.reflect.Modifier;
import java.nio.file.Files;
import java.nio.file.Path;
import java.util.ArrayList;
import java.util.Arrays;
import java.util.List;
import java.util.Random;

/** What of LANGUAGE.md a machine can see: its rules in the source, that nothing throws, the same answers, the room. */
public final class LanguageTest {
    private static final String SOURCE = "src/main/java/HeldPaths.java";
    private static int wrong;

    private static void must(boolean is, String what) {
        if (!is) {
            wrong++;
            System.out.println("not so: " + what);
        }
    }

    public static void main(String[] args) throws Exception {
        rulesHold();
        rulesAreSeen();
        nothingThrows();
        room();
        System.out.println(wrong == 0 ? "the rules of LANGUAGE.md hold" : wrong + " rules do not hold");
        if (wrong != 0) {
            System.exit(1);
        }
    }

    private static void rulesHold() throws IOException {
        for (String broken : Rules.brokenIn("HeldPaths", Files.readString(Path.of(SOURCE)))) {
            must(false, "LANGUAGE.md, rule " + broken);
        }
    }

    // ---- that a broken rule would be seen

    /** A class in which all is as it should be but for what is put into it. */
    private static String with(String member) {
        return "import java.util.ArrayList;\nimport java.util.List;\npublic final class A {\n" + member
            + "\nprivate static class B { int v; int f(int x) { return x; } }\n}\n";
    }

    private static void good(String member) throws IOException {
        List<String> broken = Rules.brokenIn("A", with(member));
        must(broken.isEmpty(), "no rule is broken by " + member + ", but " + broken);
    }

    private static void bad(int rule, String member) throws IOException {
        badWhole(rule, with(member));
    }

    private static void badWhole(int rule, String source) throws IOException {
        List<String> broken = Rules.brokenIn("A", source);
        must(broken.stream().anyMatch(b -> b.startsWith(rule + ": ")), "rule " + rule + " is broken by " + source + ", but only " + broken);
    }

    private static void rulesAreSeen() throws IOException {
        good("private final B b = new B(); public int g(int x) { for (int i = 0; i < x && i < 9; i++) { b.v += i; } return b.f(x / 2); }");
        good("private int[][] grid; private List<B> list = new ArrayList<>(); private static final int[] ROW = {1, 2};");
        good("public int g(int x) { int by = x - 1; if (by == 0) { return 0; } return x / by + (int) 7L % -3; }");
        classesAreSeen();
        typesAreSeen();
        callsAreSeen();
        wordsAreSeen();
        sizesAreSeen();
        loopsAreSeen();
    }

    private static void classesAreSeen() throws IOException {
        badWhole(0, "package a; public final class A { }");
        badWhole(1, "final class A { }");
        badWhole(1, "public class A { }");
        badWhole(1, "public final class A { } class C { }");
        bad(1, "int seen() { return 0; }");
        bad(1, "protected int seen() { return 0; }");
        bad(1, "int seen;");
        bad(1, "public int seen;");
        bad(1, "static final int SEEN = 1;");
        bad(1, "public static class Seen { }");
        bad(1, "public int twice(int x) { return twice(x, 2); } private int twice(int x, int y) { return x * y; }");
        bad(2, "private class Inner { }");
        bad(2, "public void g() { class Local { } }");
        bad(2, "public void g() { B b = new B() { }; }");
        bad(2, "private interface F { int f(int x); } public int g() { F f = x -> x; return f.f(1); }");
        bad(2, "private interface F { int f(int x); } public int g() { F f = Math::abs; return f.f(1); }");
        bad(12, "private static class C { int v; C() { v = f(); } int f() { return 1; } }");
    }

    private static void typesAreSeen() throws IOException {
        bad(3, "private Object any;");
        bad(3, "private Long big;");
        bad(3, "private int[][][] cube;");
        bad(3, "private String[] texts;");
        bad(3, "private List<String> texts;");
        bad(3, "private double half;");
        bad(3, "public java.util.HashMap<Integer, Integer> g() { return null; }");
        badWhole(3, "public final class A { /* " + (char) 233 + " */ }");
        bad(4, "private String sign() { return \"\\u00e9\"; }");
        bad(5, "private static int many;");
        bad(5, "private static final B ONE = new B();");
        bad(5, "private static final int[] ROW = new int[3];");
        bad(5, "private static final int[] ROW = {1, 2}; public void g() { ROW[0] = 3; }");
        bad(5, "private static final int[] ROW = {1, 2}; public void g() { ROW[0]++; }");
        bad(5, "private static final int ONE; static { ONE = 1; }");
    }

    private static void callsAreSeen() throws IOException {
        badWhole(4, "import java.util.Random; public final class A { }");
        badWhole(4, "import java.util.*; public final class A { }");
        badWhole(4, "import static java.lang.Math.abs; public final class A { }");
        bad(4, "public long g() { return System.nanoTime(); }");
        bad(4, "public int g() { return Math.addExact(1, 2); }");
        bad(4, "public int g(String s) { return s.compareTo(s); }");
        bad(4, "public int g(String s) { return s.indexOf(s); }");
        bad(4, "public int g(B b) { return b.hashCode(); }");
        bad(4, "public boolean g(B b) { return b.equals(b); }");
        bad(4, "public int g() { return Integer.MAX_VALUE; }");
        bad(4, "public int g() { return new java.util.Random().nextInt(); }");
        bad(4, "@Deprecated public int g() { return 0; }");
    }

    private static void wordsAreSeen() throws IOException {
        bad(6, "public void g() { throw null; }");
        bad(6, "public void g() throws RuntimeException { }");
        bad(6, "public void g() { try { g(); } finally { } }");
        bad(6, "public void g() { synchronized (this) { } }");
        bad(6, "public synchronized void g() { }");
        bad(6, "public void g() { assert true; }");
        bad(6, "private static class C extends B { } public int g(B b) { return ((C) b).v; }");
        bad(6, "public boolean g(String s, String t) { return s == t; }");
        bad(6, "public boolean g(Integer s, Integer t) { return s != t; }");
        bad(6, "public String toString() { return null; }");
        bad(7, "public int g(int x) { return 1 / x; }");
        bad(7, "public int g(int x) { x %= x; return x; }");
        bad(7, "public int g(int x) { return x / 0; }");
        bad(10, "public String g(String s) { return s + 1; }");
        bad(10, "public String g(String s) { s += 1; return s; }");
        bad(10, "public int g(String s) { switch (s) { case \"a\": return 1; default: return 0; } }");
    }

    private static void sizesAreSeen() throws IOException {
        bad(8, "public int g(int x) { return g(x); }");
        bad(8, "public int g(int x) { return h(x); } private int h(int x) { return g(x); }");
        bad(8, "private static class C extends B { int f(int x) { return h(x); } int h(int x) { return f(x); } }");
        bad(11, "public void g(int a, int b, int c, int d, int e, int f, int g, int h) { }");
        bad(11, "public void g() {" + "\n".repeat(60) + "}");
        bad(11, "private int a" + fields(21) + ";");
        bad(11, classes(11));
        bad(11, chain(9));
        good(chain(8));
        good("private int a" + fields(20) + ";");
        good(classes(10));
        good("public void g() {" + "\n".repeat(59) + "}");
    }

    private static String fields(int n) {
        StringBuilder s = new StringBuilder();
        for (int i = 1; i < n; i++) {
            s.append(", a").append(i);
        }
        return s.toString();
    }

    /** The class itself and B are two more. */
    private static String classes(int n) {
        StringBuilder s = new StringBuilder();
        for (int i = 0; i < n; i++) {
            s.append("private static class C").append(i).append(" { }\n");
        }
        return s.toString();
    }

    /** As many methods, each of which calls the next one. */
    private static String chain(int n) {
        StringBuilder s = new StringBuilder();
        for (int i = 1; i < n; i++) {
            s.append("private int g").append(i).append("() { return g").append(i + 1).append("(); }\n");
        }
        return s.append("private int g").append(n).append("() { return 1; }").toString();
    }

    private static void loopsAreSeen() throws IOException {
        bad(9, "public void g() { while (true) { } }");
        bad(9, "public void g(int x) { do { x++; } while (x < 5); }");
        bad(9, "public void g() { for (;;) { } }");
        bad(9, "public void g(int x) { for (int i = 0; i != x; i++) { } }");
        bad(9, "public void g(int x) { for (int i = 0; i < x; i += x) { } }");
        bad(9, "public void g(int x) { for (int i = 0; i < x; i++) { i--; } }");
        bad(9, "public void g(int x) { for (int i = 0; i < x; i++) { x++; } }");
        bad(9, "public void g(int x) { for (int i = 0; i < 5 || x > 0; i++) { } }");
    }

    // ---- runs

    /** Calls with numbers from everywhere, in states that such calls bring about: none throws, and a twin answers alike. */
    private static void nothingThrows() throws IllegalAccessException {
        Random random = new Random(44);
        List<Method> calls = new ArrayList<>();
        for (Method m : HeldPaths.class.getDeclaredMethods()) {
            if (Modifier.isPublic(m.getModifiers())) {
                calls.add(m);
            }
        }
        calls.sort((a, b) -> a.getName().compareTo(b.getName()));
        for (int run = 0; run < 400 && wrong == 0; run++) {
            HeldPaths x = new HeldPaths();
            HeldPaths twin = new HeldPaths();
            for (int i = 0; i < 2000 && wrong == 0; i++) {
                Method m = calls.get(random.nextInt(calls.size()));
                Object[] with = numbersFor(m, random);
                must(answer(m, x, with).equals(answer(m, twin, with)), m.getName() + Arrays.toString(with) + " answers alike twice");
            }
        }
    }

    private static Object[] numbersFor(Method m, Random random) {
        int[] ints = {
            Integer.MIN_VALUE, Integer.MIN_VALUE + 10, -100, -15, -10, -9, -2, -1, 0, 0, 1, 1, 2, 2, 3, 3, 4, 5, 6, 7, 8, 9,
            10, 11, 12, 13, 14, 20, 21, 30, 31, 32, 39, 40, 41, 64, 99, 100, 240, 255, 256, Integer.MAX_VALUE - 1, Integer.MAX_VALUE
        };
        Object[] with = new Object[m.getParameterCount()];
        for (int k = 0; k < with.length; k++) {
            Class<?> type = m.getParameterTypes()[k];
            boolean small = random.nextInt(4) > 0;
            int v = small ? random.nextInt(9) : ints[random.nextInt(ints.length)];
            with[k] = type == boolean.class ? (Object) random.nextBoolean() : type == long.class ? (Object) random.nextLong() : (Object) v;
        }
        return with;
    }

    private static Object answer(Method m, HeldPaths x, Object[] with) throws IllegalAccessException {
        try {
            return m.invoke(x, with);
        } catch (InvocationTargetException e) {
            must(false, m.getName() + Arrays.toString(with) + " throws nothing, but " + e.getCause());
            return "nothing";
        }
    }

    /** What 512 of the dearest calls make, and what 512 new objects make, is far below what the room holds. */
    private static void room() {
        com.sun.management.ThreadMXBean bean = (com.sun.management.ThreadMXBean) ManagementFactory.getThreadMXBean();
        HeldPaths x = null;
        long start = bean.getCurrentThreadAllocatedBytes();
        for (int i = 0; i < 512; i++) {
            x = new HeldPaths();
        }
        long objects = bean.getCurrentThreadAllocatedBytes() - start;
        must(objects < 512 * 40_000, "a new object takes less than 40,000 bytes, not " + objects / 512);
        for (int i = 0; i < 8; i++) {
            x.path(i % 6, i, (i + 1) % 8, 4, 4);
        }
        x.walker(0, 0);
        x.rule(2, 0);
        x.shelf(0, 0, 3);
        start = bean.getCurrentThreadAllocatedBytes();
        for (int i = 0; i < 32; i++) {
            x.within(0, 5, 2, 0);
            x.held(0, 5, 3);
            x.keepers(0, 5, 1);
            x.home(0, 4);
            x.seek(0);
            x.does(0, 0);
            x.prove(12);
            x.judge();
            x.night(20);
            x.act(0, 3, i);
            x.sheet(0, 3, 40);
            x.feed(0x3b6e696172L, 5);
            x.keep();
            x.wood();
            x.again();
            x.odds(0, 5, 0);
        }
        long calls = bean.getCurrentThreadAllocatedBytes() - start;
        must(calls < 100_000, "512 calls make less than 100,000 bytes, not " + calls);
    }
}
