import java.lang.reflect.Constructor;
import java.lang.reflect.Field;
import java.lang.reflect.Method;
import java.lang.reflect.Modifier;
import java.nio.file.Files;
import java.nio.file.Path;
import java.util.ArrayList;
import java.util.Arrays;
import java.util.LinkedHashMap;
import java.util.List;
import java.util.Map;
import java.util.Set;
import java.util.TreeSet;
import java.util.regex.Matcher;
import java.util.regex.Pattern;

/** The class has the public face that ../shared/DOC.md writes out, each member of it and no other one. */
public final class FaceTest {
    private static final int PROMISES = 44;
    private static int wrong;

    private static void must(boolean is, String what) {
        if (!is) {
            wrong++;
            System.out.println("not so: " + what);
        }
    }

    public static void main(String[] args) throws Exception {
        String document = Files.readString(Path.of("../shared/DOC.md"));
        String face = between(document, "## The public face\n\n```java\n", "```");
        List<String> heads = found(face, "public (\\w+ \\w+\\([^)]*\\));");
        must(heads.size() == PROMISES - 1, "the document writes out a method for each promise but the first, not " + heads.size());
        promises(document, heads);
        theClass(face);
        methods(heads);
        names(heads);
        constants(face);
        constructor(face);
        System.out.println(wrong == 0 ? "the face is the document's" : wrong + " things of the face are not the document's");
        if (wrong != 0) {
            System.exit(1);
        }
    }

    private static String between(String text, String from, String to) {
        int start = text.indexOf(from);
        int end = start < 0 ? -1 : text.indexOf(to, start + from.length());
        must(end >= 0, "there is a text between " + from.trim() + " and " + to);
        return end < 0 ? "" : text.substring(start + from.length(), end);
    }

    private static List<String> found(String text, String pattern) {
        List<String> all = new ArrayList<>();
        Matcher m = Pattern.compile(pattern).matcher(text);
        while (m.find()) {
            all.add(m.group(1));
        }
        return all;
    }

    /** That this test reads the document rightly: its promises have the methods that its face has. */
    private static void promises(String document, List<String> heads) {
        for (int i = 0; i < heads.size(); i++) {
            String name = heads.get(i).replaceAll("^\\w+ |\\(.*", "");
            String promise = "## Promise " + (i + 2) + ": " + name + "\n\n`" + heads.get(i) + "`: ";
            must(document.contains(promise), "promise " + (i + 2) + " is about " + heads.get(i));
        }
    }

    private static void theClass(String face) {
        must(face.startsWith("public final class HeldPaths {"), "the document's class is public and final");
        int is = HeldPaths.class.getModifiers();
        must(Modifier.isPublic(is) && Modifier.isFinal(is), "the class is public and final");
        must(HeldPaths.class.getSuperclass() == Object.class && HeldPaths.class.getInterfaces().length == 0, "it is under no other one");
        must(HeldPaths.class.getPackageName().isEmpty(), "it has no package");
        must(HeldPaths.class.getClasses().length == 0, "no class inside is public");
        for (Class<?> inside : HeldPaths.class.getDeclaredClasses()) {
            int how = inside.getModifiers();
            must(Modifier.isStatic(how) && !Modifier.isPublic(how) && !Modifier.isProtected(how), inside + " is static and hidden");
        }
    }

    private static void methods(List<String> heads) {
        Set<String> due = new TreeSet<>();
        for (String head : heads) {
            due.add(head.replaceAll("(\\w+) \\w+([,)])", "$1$2").replace(", ", ","));
        }
        Set<String> is = new TreeSet<>();
        Set<String> names = new TreeSet<>();
        for (Method m : HeldPaths.class.getDeclaredMethods()) {
            if (Modifier.isPrivate(m.getModifiers())) {
                continue;
            }
            String types = Arrays.toString(m.getParameterTypes()).replaceAll("[\\[\\] ]", "");
            is.add(m.getReturnType() + " " + m.getName() + "(" + types + ")");
            names.add(m.getName());
            must(m.getModifiers() == Modifier.PUBLIC, m + " is public, and no more than that");
            must(m.getExceptionTypes().length == 0, m + " tells of no exception");
        }
        must(is.equals(due), "the methods are " + due + ", not " + is);
        for (Method m : HeldPaths.class.getDeclaredMethods()) {
            boolean hidden = Modifier.isPrivate(m.getModifiers());
            must(!hidden || !names.contains(m.getName()), m + " bears no public name");
        }
    }

    /** Parameters bear the document's names: what a call means stands in them. */
    private static void names(List<String> heads) throws Exception {
        String source = Files.readString(Path.of("src/main/java/HeldPaths.java"));
        for (String head : heads) {
            must(source.contains("    public " + head + " {\n"), "the source has " + head);
        }
    }

    private static void constants(String face) throws IllegalAccessException {
        Map<String, Integer> due = new LinkedHashMap<>();
        for (String part : between(face, "public static final int ", ";").split(", ")) {
            String[] both = part.split(" = ");
            due.put(both[0], Integer.valueOf(both[1]));
        }
        must(due.size() == 4, "the document has four constants, not " + due);
        Map<String, Integer> is = new LinkedHashMap<>();
        for (Field f : HeldPaths.class.getDeclaredFields()) {
            if (!Modifier.isPrivate(f.getModifiers())) {
                must(f.getModifiers() == (Modifier.PUBLIC | Modifier.STATIC | Modifier.FINAL) && f.getType() == int.class,
                    f + " is a public constant");
                is.put(f.getName(), f.getInt(null));
            }
        }
        must(is.equals(due), "the constants are " + due + ", not " + is);
    }

    private static void constructor(String face) {
        must(face.contains("    public HeldPaths();\n"), "the document's constructor takes nothing");
        Constructor<?>[] made = HeldPaths.class.getDeclaredConstructors();
        must(made.length == 1, "there is one constructor");
        must(made[0].getModifiers() == Modifier.PUBLIC && made[0].getParameterCount() == 0, "it is public and takes nothing");
    }
}
