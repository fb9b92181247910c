import java.io.IOException;
import java.lang.management.ManagementFactory;
import java.lang.reflect.Constructor;
import java.lang.reflect.Field;
import java.lang.reflect.InvocationTargetException;
import java.lang.reflect.Method;
import java.lang.reflect.Modifier;
import java.nio.file.Files;
import java.nio.file.Path;
import java.util.ArrayList;
import java.util.Arrays;
import java.util.HashSet;
import java.util.List;
import java.util.Random;
import java.util.Set;
import java.util.regex.Matcher;
import java.util.regex.Pattern;

/** What of LANGUAGE.md a machine can see: the face, words that are not used, sizes, that nothing throws, the room. */
public final class LanguageTest {
    private static final String FACE = "int feed(long,int) int wood() int path(int,int,int,int,int) int pathOf(int,int) "
        + "int open(int,boolean) int rain(boolean) int weigh(int,int) int walker(int,int) int walkerOf(int,int) "
        + "int walk(int,int) int on(int,int) int off(int,int) int put(int,int) int night(int) int count(int) int seed(int) "
        + "int way(int,int) int reach(int) long odds(int,int,int) int held(int,int,int) int keepers(int,int,int) "
        + "int home(int,int) long within(int,int,int,int) int seek(int) int rule(int,int) int ruleOf(int,int) "
        + "int does(int,int) int goes(int,int) int prove(int) int row(int,int) int alterRow(int,int,int) int judge() "
        + "int lays(int) int sheet(int,int,int) int write(int,int,int) int item(int,int,int) int shelf(int,int,int) "
        + "int taken(int,int) int act(int,int,int) int trace(int) int many(int) int keep() int again()";
    private static int wrong;

    private static void must(boolean is, String what) {
        if (!is) {
            wrong++;
            System.out.println("not so: " + what);
        }
    }

    public static void main(String[] args) throws Exception {
        face();
        classesInside();
        source();
        nothingThrows();
        room();
        System.out.println(wrong == 0 ? "the rules of LANGUAGE.md hold" : wrong + " rules do not hold");
        if (wrong != 0) {
            System.exit(1);
        }
    }

    private static void face() {
        int c = HeldPaths.class.getModifiers();
        must(Modifier.isPublic(c) && Modifier.isFinal(c), "the class is public and final");
        Set<String> found = new HashSet<>();
        Set<String> names = new HashSet<>();
        List<Method> hidden = new ArrayList<>();
        for (Method m : HeldPaths.class.getDeclaredMethods()) {
            if (Modifier.isPublic(m.getModifiers())) {
                String types = Arrays.toString(m.getParameterTypes()).replaceAll("[\\[\\] ]", "");
                found.add(m.getReturnType() + " " + m.getName() + "(" + types + ")");
                names.add(m.getName());
                must(!Modifier.isStatic(m.getModifiers()), m + " is not static");
            } else {
                must(Modifier.isPrivate(m.getModifiers()), m + " is private");
                hidden.add(m);
            }
        }
        must(found.equals(new HashSet<>(Arrays.asList(FACE.split("(?<=\\)) ")))), "the face is the document's, not " + found);
        for (Method m : hidden) {
            must(!names.contains(m.getName()), m + " bears no public name");
        }
        for (Class<?> inside : HeldPaths.class.getDeclaredClasses()) {
            for (Method m : inside.getDeclaredMethods()) {
                must(!names.contains(m.getName()), m + " bears no public name");
            }
        }
        Constructor<?>[] made = HeldPaths.class.getDeclaredConstructors();
        must(made.length == 1 && Modifier.isPublic(made[0].getModifiers()) && made[0].getParameterCount() == 0, "one constructor");
        Set<String> constants = new HashSet<>();
        for (Field f : HeldPaths.class.getDeclaredFields()) {
            if (!Modifier.isPrivate(f.getModifiers())) {
                constants.add(Modifier.toString(f.getModifiers()) + " " + f.getType() + " " + f.getName());
            }
        }
        Set<String> due = new HashSet<>();
        for (String name : new String[] {"BAD", "FULL", "NONE", "STATE"}) {
            due.add("public static final int " + name);
        }
        must(constants.equals(due), "the constants are the document's, not " + constants);
    }

    private static void classesInside() {
        List<Class<?>> all = new ArrayList<>(Arrays.asList(HeldPaths.class.getDeclaredClasses()));
        all.add(HeldPaths.class);
        must(all.size() <= 12, "twelve classes at most, not " + all.size());
        for (Class<?> c : all) {
            int fields = 0;
            for (Field f : c.getDeclaredFields()) {
                boolean isStatic = Modifier.isStatic(f.getModifiers());
                must(!isStatic || Modifier.isFinal(f.getModifiers()), f + " is final");
                fields += isStatic ? 0 : 1;
            }
            must(fields <= 20, c + " has twenty fields at most");
            for (Method m : c.getDeclaredMethods()) {
                must(m.getParameterCount() <= 7, m + " takes seven parameters at most");
            }
            if (c != HeldPaths.class) {
                int is = c.getModifiers();
                must(Modifier.isStatic(is) && !Modifier.isPublic(is) && !Modifier.isProtected(is), c + " is static and hidden");
                must(c.getDeclaredClasses().length == 0, c + " has no classes inside");
            }
        }
    }

    private static void source() throws IOException {
        String whole = Files.readString(Path.of("src/main/java/HeldPaths.java"));
        must(whole.chars().allMatch(b -> b == '\n' || b >= 32 && b < 127), "plain signs alone");
        String code = whole.replaceAll("(?s)/\\*.*?\\*/", "").replaceAll("//[^\n]*", "").replaceAll("\"[^\"\n]*\"", "\"\"");
        String[] never = {
            "throw", "throws", "try", "catch", "finally", "synchronized", "assert", "package", "volatile", "transient",
            "native", "goto", "Override", "var", "Object", "Thread", "Exception", "hashCode", "toString", "float", "double"
        };
        for (String word : never) {
            must(!Pattern.compile("\\b" + word + "\\b").matcher(code).find(), "there is no " + word);
        }
        must(!code.contains("->") && !code.contains("::"), "there is no lambda and no method reference");
        must(!Pattern.compile("Exact\\b").matcher(code).find(), "nothing ends in Exact");
        Matcher imports = Pattern.compile("import ([^;]*);").matcher(code);
        while (imports.find()) {
            must(imports.group(1).matches("java\\.util\\.(Arrays|ArrayList|List)"), imports.group(1) + " may be used");
        }
        methodLengths(whole);
    }

    private static void methodLengths(String whole) {
        String[] lines = whole.split("\n");
        for (int i = 0; i < lines.length; i++) {
            Matcher head = Pattern.compile("^( +)[^/*=]*\\w+\\(.*\\) \\{$").matcher(lines[i]);
            boolean isHead = head.matches() && head.group(1).length() <= 8
                && !lines[i].trim().matches("(if|for|while|switch|else|do|\\}).*");
            if (isHead) {
                int end = i;
                while (end < lines.length - 1 && !lines[end].equals(head.group(1) + "}")) {
                    end++;
                }
                must(end - i < 60, "short: " + lines[i]);
            }
        }
    }

    /** Calls with numbers from everywhere, in states that such calls bring about. */
    private static void nothingThrows() throws IllegalAccessException {
        int[] ints = {
            Integer.MIN_VALUE, Integer.MIN_VALUE + 10, -100, -15, -10, -9, -2, -1, 0, 0, 1, 1, 2, 2, 3, 3, 4, 5, 6, 7, 8, 9,
            10, 11, 12, 13, 14, 20, 21, 30, 31, 32, 39, 40, 41, 64, 99, 100, 240, 255, 256, Integer.MAX_VALUE - 1, Integer.MAX_VALUE
        };
        Random random = new Random(44);
        List<Method> calls = new ArrayList<>();
        for (Method m : HeldPaths.class.getDeclaredMethods()) {
            if (Modifier.isPublic(m.getModifiers())) {
                calls.add(m);
            }
        }
        calls.sort((a, b) -> a.getName().compareTo(b.getName()));
        for (int run = 0; run < 400; run++) {
            HeldPaths x = new HeldPaths();
            for (int i = 0; i < 2000; i++) {
                Method m = calls.get(random.nextInt(calls.size()));
                Object[] with = new Object[m.getParameterCount()];
                for (int k = 0; k < with.length; k++) {
                    Class<?> type = m.getParameterTypes()[k];
                    boolean small = random.nextInt(4) > 0;
                    int v = small ? random.nextInt(9) : ints[random.nextInt(ints.length)];
                    with[k] = type == boolean.class ? (Object) random.nextBoolean() : type == long.class ? (Object) random.nextLong() : (Object) v;
                }
                try {
                    m.invoke(x, with);
                } catch (InvocationTargetException e) {
                    must(false, m.getName() + Arrays.toString(with) + " throws nothing, but " + e.getCause());
                    return;
                }
            }
        }
    }

    /** What 512 of the dearest calls make, and what 512 new objects make, is far below what the room holds. */
    private static void room() {
        com.sun.management.ThreadMXBean bean = (com.sun.management.ThreadMXBean) ManagementFactory.getThreadMXBean();
        HeldPaths x = null;
        long start = bean.getCurrentThreadAllocatedBytes();
        for (int i = 0; i < 512; i++) {
            x = new HeldPaths();
        }
        long objects = bean.getCurrentThreadAllocatedBytes() - start;
        must(objects < 512 * 40_000, "a new object takes less than 40,000 bytes, not " + objects / 512);
        for (int i = 0; i < 8; i++) {
            x.path(i % 6, i, (i + 1) % 8, 4, 4);
        }
        x.walker(0, 0);
        x.rule(2, 0);
        x.shelf(0, 0, 3);
        start = bean.getCurrentThreadAllocatedBytes();
        for (int i = 0; i < 32; i++) {
            x.within(0, 5, 2, 0);
            x.held(0, 5, 3);
            x.keepers(0, 5, 1);
            x.home(0, 4);
            x.seek(0);
            x.does(0, 0);
            x.prove(12);
            x.judge();
            x.night(20);
            x.act(0, 3, i);
            x.sheet(0, 3, 40);
            x.feed(0x3b6e696172L, 5);
            x.keep();
            x.wood();
            x.again();
            x.odds(0, 5, 0);
        }
        long calls = bean.getCurrentThreadAllocatedBytes() - start;
        must(calls < 100_000, "512 calls make less than 100,000 bytes, not " + calls);
    }
}
