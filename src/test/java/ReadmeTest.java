import java.io.IOException;
import java.io.StringWriter;
import java.lang.reflect.Method;
import java.lang.reflect.Modifier;
import java.net.URL;
import java.net.URLClassLoader;
import java.nio.file.Files;
import java.nio.file.Path;
import java.util.ArrayList;
import java.util.HashSet;
import java.util.List;
import java.util.Set;
import java.util.TreeSet;
import java.util.regex.Matcher;
import java.util.regex.Pattern;
import javax.tools.JavaCompiler;
import javax.tools.ToolProvider;

/** README.md shows calls and their answers: they are compiled as they stand there, run, and must answer so. */
public final class ReadmeTest {
    private static final Pattern BLOCK = Pattern.compile("(?s)```java\n(.*?)```");
    private static final Pattern SHOWN = Pattern.compile("^((?:x\\.(\\w+)|tell)\\(.*\\));\\s+// (-?\\d+|BAD|STATE|FULL|NONE): .+$");
    private static final Pattern CALL = Pattern.compile("\\bx\\.(\\w+)\\(");

    private static final Set<String> CALLED = new TreeSet<>();
    private static final Set<String> ANSWERS = new TreeSet<>();
    private static int shown = 0;
    private static int wrong = 0;

    /** Called by the code that is made of the page. */
    public static void due(String call, long got, long want) {
        shown++;
        if (got != want) tellWrong(call + " answers " + got + ", README.md says " + want);
    }

    private static void tellWrong(String what) {
        wrong++;
        System.out.println(what);
    }

    /** A block is a run of its own, but for one that declares a method. */
    private static String program(String page) {
        StringBuilder members = new StringBuilder();
        StringBuilder runs = new StringBuilder();
        Matcher blocks = BLOCK.matcher(page);
        while (blocks.find()) {
            String block = blocks.group(1);
            if (block.startsWith("static ")) members.append(block);
            else runs.append("{\n").append(checked(block)).append("}\n");
        }
        return "public final class Shown {\n" + members + "public static void main(String[] args) {\n" + runs + "}\n}\n";
    }

    private static String checked(String block) {
        StringBuilder all = new StringBuilder();
        for (String line : block.split("\n")) {
            Matcher m = SHOWN.matcher(line);
            if (m.matches()) {
                String want = m.group(3);
                ANSWERS.add(want);
                if (m.group(2) != null) CALLED.add(m.group(2));
                String name = m.group(1).replace("\\", "\\\\").replace("\"", "\\\"");
                String number = Character.isLetter(want.charAt(0)) ? "CrossShuts." + want : want + "L";
                all.append("ReadmeTest.due(\"").append(name).append("\", ").append(m.group(1)).append(", ").append(number).append(");\n");
            } else {
                if (CALL.matcher(line).find() && !line.startsWith("for ")) tellWrong("no answer stands behind: " + line);
                all.append(line).append('\n');
            }
        }
        return all.toString();
    }

    private static void runProgram(String source) throws Exception {
        Path dir = Files.createTempDirectory("readme");
        Path file = dir.resolve("Shown.java");
        Files.writeString(file, source);
        JavaCompiler compiler = ToolProvider.getSystemJavaCompiler();
        String path = System.getProperty("java.class.path");
        StringWriter told = new StringWriter();
        try (var files = compiler.getStandardFileManager(null, null, null)) {
            List<String> options = List.of("-cp", path, "-d", dir.toString());
            if (!compiler.getTask(told, files, null, options, null, files.getJavaFileObjects(file)).call()) {
                tellWrong("README.md does not compile: " + told);
                return;
            }
        }
        try (URLClassLoader loader = new URLClassLoader(new URL[] {dir.toUri().toURL()}, ReadmeTest.class.getClassLoader())) {
            loader.loadClass("Shown").getMethod("main", String[].class).invoke(null, (Object) new String[0]);
        }
        Files.delete(dir.resolve("Shown.class"));
        Files.delete(file);
        Files.delete(dir);
    }

    private static void nothingMissing(String page) throws IOException {
        String bare = page.replaceAll("(?s)```.*?```", "");
        for (Method m : CrossShuts.class.getDeclaredMethods()) {
            if (!Modifier.isPublic(m.getModifiers())) continue;
            if (!CALLED.contains(m.getName())) tellWrong("README.md shows no call of " + m.getName());
            if (!Pattern.compile("(?m)^\\| .*`" + m.getName() + "\\(").matcher(bare).find()) tellWrong("the table does not name " + m.getName());
        }
        Set<String> refusals = new HashSet<>(List.of("BAD", "STATE", "FULL", "NONE"));
        refusals.removeAll(ANSWERS);
        if (!refusals.isEmpty()) tellWrong("README.md shows no " + refusals);
        for (String name : testNames()) if (!bare.contains("`" + name + "`")) tellWrong("README.md does not name " + name);
        for (Class<?> c : CrossShuts.class.getDeclaredClasses()) {
            if (!bare.contains("| `" + c.getSimpleName() + "` |")) tellWrong("README.md does not name " + c.getSimpleName());
        }
    }

    private static List<String> testNames() throws IOException {
        List<String> names = new ArrayList<>();
        try (var all = Files.list(Path.of("src/test/java"))) {
            all.map(p -> p.getFileName().toString()).filter(n -> n.endsWith("Test.java")).sorted().forEach(n -> names.add(n.substring(0, n.length() - 5)));
        }
        return names;
    }

    public static void main(String[] args) throws Exception {
        String page = Files.readString(Path.of("README.md"));
        runProgram(program(page));
        nothingMissing(page);
        System.out.println(shown + " calls of README.md, " + wrong + " faults");
        if (wrong != 0 || shown == 0) System.exit(1);
    }
}
