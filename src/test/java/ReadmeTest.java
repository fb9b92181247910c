import java.io.File;
import java.io.IOException;
import java.lang.reflect.Method;
import java.lang.reflect.Modifier;
import java.net.URL;
import java.net.URLClassLoader;
import java.nio.file.Files;
import java.nio.file.Path;
import java.util.ArrayList;
import java.util.List;
import java.util.regex.Matcher;
import java.util.regex.Pattern;
import javax.tools.ToolProvider;

/** What README.md says of answers is what the class answers; it has an example of each call and names each test. */
public final class ReadmeTest {
    /** A call, and behind it the answer, which may be followed by what it means. */
    private static final Pattern ANSWERED = Pattern.compile("(\\S.*);\\s+// (-?\\d+)(:.*)?");
    private static int wrong;
    private static int answers;

    private static void must(boolean is, String what) {
        if (!is) {
            wrong++;
            System.out.println("not so: " + what);
        }
    }

    public static void main(String[] args) throws Exception {
        String readme = Files.readString(Path.of("README.md"));
        List<String> blocks = blocks(readme);
        String source = source(blocks);
        everyCallIsShown(String.join("\n", blocks));
        constants(readme);
        testsAreNamed(readme);
        if (wrong == 0) {
            run(source);
        }
        must(answers > 100, "the README tells more than a hundred answers, not " + answers);
        System.out.println(wrong == 0 ? answers + " answers of README.md are as it says" : wrong + " things of README.md are not so");
        if (wrong != 0) {
            System.exit(1);
        }
    }

    private static List<String> blocks(String readme) {
        List<String> all = new ArrayList<>();
        Matcher m = Pattern.compile("(?s)```java\n(.*?)```").matcher(readme);
        while (m.find()) {
            all.add(m.group(1));
        }
        return all;
    }

    /** A class that asks for each answer; blocks that begin with static are methods for the others. */
    private static String source(List<String> blocks) {
        StringBuilder methods = new StringBuilder();
        StringBuilder main = new StringBuilder();
        for (String block : blocks) {
            if (block.startsWith("static ")) {
                methods.append(block);
            } else {
                main.append("{\n").append(asked(block)).append("}\n");
            }
        }
        return "import java.util.List;\npublic class Examples {\n" + methods
            + "static void due(List<String> wrong, String call, long got, long want) {\n"
            + "if (got != want) { wrong.add(call + \" answered \" + got + \", the README says \" + want); }\n}\n"
            + "public static void run(List<String> wrong) {\n" + main + "}\n}\n";
    }

    private static String asked(String block) {
        StringBuilder code = new StringBuilder();
        for (String line : block.split("\n")) {
            Matcher m = ANSWERED.matcher(line);
            if (m.matches()) {
                answers++;
                String told = m.group(1).replace("\\", "\\\\").replace("\"", "\\\"");
                code.append("due(wrong, \"" + told + "\", " + m.group(1) + ", " + m.group(2) + "L);\n");
            } else {
                must(line.matches("HeldPaths \\w+ = new HeldPaths\\(\\);"), "there is an answer behind: " + line);
                code.append(line).append('\n');
            }
        }
        return code.toString();
    }

    private static void run(String source) throws Exception {
        Path dir = Files.createTempDirectory("readme");
        Path file = dir.resolve("Examples.java");
        Files.writeString(file, source);
        String classPath = System.getProperty("java.class.path");
        int result = ToolProvider.getSystemJavaCompiler().run(null, null, null, "-cp", classPath, "-d", dir.toString(), file.toString());
        must(result == 0, "the examples can be compiled");
        if (result == 0) {
            List<String> answeredElse = new ArrayList<>();
            try (URLClassLoader loader = new URLClassLoader(new URL[] {dir.toUri().toURL()})) {
                Method run = loader.loadClass("Examples").getMethod("run", List.class);
                run.invoke(null, answeredElse);
            }
            answeredElse.forEach(line -> must(false, line));
        }
        for (File made : dir.toFile().listFiles()) {
            Files.delete(made.toPath());
        }
        Files.delete(dir);
    }

    private static void everyCallIsShown(String examples) {
        for (Method m : HeldPaths.class.getDeclaredMethods()) {
            boolean isFace = Modifier.isPublic(m.getModifiers());
            must(!isFace || examples.contains("wood." + m.getName() + "("), "there is an example of " + m.getName());
        }
    }

    private static void constants(String readme) throws ReflectiveOperationException {
        Matcher m = Pattern.compile("\\| (-\\d+) \\| `([A-Z]+)` \\|").matcher(readme);
        int rows = 0;
        while (m.find()) {
            rows++;
            int is = HeldPaths.class.getField(m.group(2)).getInt(null);
            must(is == Integer.parseInt(m.group(1)), m.group(2) + " is " + m.group(1) + ", not " + is);
        }
        must(rows == 4, "the README tells the four constants, not " + rows);
    }

    private static void testsAreNamed(String readme) throws IOException {
        for (File file : new File("src/test/java").listFiles()) {
            boolean isTest = file.getName().endsWith("Test.java");
            must(!isTest || readme.contains(file.getName() + "`"), "the README names " + file.getName());
        }
    }
}
