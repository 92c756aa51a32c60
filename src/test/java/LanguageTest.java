import java.lang.reflect.Constructor;
import java.lang.reflect.Field;
import java.lang.reflect.Method;
import java.lang.reflect.Modifier;
import java.nio.file.Files;
import java.nio.file.Path;
import java.util.ArrayList;
import java.util.List;
import java.util.Set;
import java.util.TreeSet;
import java.util.regex.Matcher;
import java.util.regex.Pattern;

/** The rules of LANGUAGE.md that a machine can look at. */
public final class LanguageTest {
    private static final Set<String> FACE = new TreeSet<>(List.of(
        "int feed(long)", "int end(int)", "int text()", "int fault()", "int rule(int)", "int bridge(int,int)",
        "int one(int,int)", "int law(int)", "int hold(int)", "int chain(int,int)", "int shut(int,int)",
        "int send(int,int,int)", "int minute(int)", "int way(int,int)", "int can(int)", "int both(int,int,int)",
        "int rings()", "int guard(int,int,int,int)", "int game(int,int,int,int)", "int relay(int,int)",
        "long chance(int,int,int)", "int saw(int,int,boolean)", "int forget(int)", "int rigs(int)", "int hangs(int)",
        "int look(int)", "int keep(int)", "int back(int)", "int sheet(int,int,int)", "int lay(int,int,int)",
        "int read(int,int,int,int)", "int torn()", "int count(int)"));
    private static final Set<String> CONSTANTS = new TreeSet<>(List.of("BAD", "STATE", "FULL", "NONE"));

    private static int wrong = 0;

    private static void must(boolean holds, String rule) {
        if (!holds) {
            wrong++;
            System.out.println("rule " + rule);
        }
    }

    private static void face() {
        Class<?> c = CrossShuts.class;
        must(Modifier.isFinal(c.getModifiers()) && Modifier.isPublic(c.getModifiers()), "1: public and final");
        Set<String> found = new TreeSet<>(), names = new TreeSet<>();
        for (Method m : c.getDeclaredMethods()) {
            if (Modifier.isPrivate(m.getModifiers())) continue;
            List<String> types = new ArrayList<>();
            for (Class<?> t : m.getParameterTypes()) types.add(t.getName());
            found.add(m.getReturnType().getName() + " " + m.getName() + "(" + String.join(",", types) + ")");
            names.add(m.getName());
        }
        must(found.equals(FACE), "1: the face is " + found);
        for (Field f : c.getDeclaredFields()) {
            must(Modifier.isPrivate(f.getModifiers()) || CONSTANTS.contains(f.getName()), "1: field " + f);
        }
        for (Constructor<?> k : c.getDeclaredConstructors()) must(k.getParameterCount() == 0 && Modifier.isPublic(k.getModifiers()), "1: " + k);
        must(c.getDeclaredClasses().length <= 11, "11: classes");
        List<Class<?>> all = new ArrayList<>(List.of(c.getDeclaredClasses()));
        for (Class<?> n : all) must(Modifier.isStatic(n.getModifiers()) && !Modifier.isPublic(n.getModifiers()), "2: " + n);
        all.add(c);
        for (Class<?> n : all) classRules(n, n == c ? Set.of() : names);
        for (Method m : c.getDeclaredMethods()) must(Modifier.isPublic(m.getModifiers()) || !names.contains(m.getName()), "1: name of " + m);
    }

    private static void classRules(Class<?> n, Set<String> taken) {
        int fields = 0;
        for (Field f : n.getDeclaredFields()) {
            boolean fixed = Modifier.isStatic(f.getModifiers());
            must(!fixed || Modifier.isFinal(f.getModifiers()), "5: " + f);
            if (fixed) must(Set.of("int", "long", "boolean", "char", "java.lang.String", "[I", "[J", "[C", "[B").contains(f.getType().getName()), "5: " + f);
            else fields++;
        }
        must(fields <= 20, "11: fields of " + n);
        for (Method m : n.getDeclaredMethods()) {
            must(m.getParameterCount() <= 7, "11: parameters of " + m);
            must(!taken.contains(m.getName()), "1: name of " + m);
        }
    }

    private static void words(String source) {
        String bare = source.replaceAll("(?s)/\\*.*?\\*/", "").replaceAll("//[^\n]*", "").replaceAll("\"[^\"\n]*\"", "\"\"");
        Matcher imports = Pattern.compile("import ([^;]*);").matcher(bare);
        while (imports.find()) must(imports.group(1).equals("java.util.Arrays"), "4: " + imports.group());
        for (String word : new String[] {"throw", "try", "catch", "synchronized", "assert", "throws", "finally", "package",
            "native", "System.out", "System.in", "System.nanoTime", "System.currentTimeMillis", "Exception", "Object",
            "hashCode", "toString", "Random", "Thread", "var", "float", "double", "protected", "volatile"}) {
            must(!Pattern.compile("\\b" + Pattern.quote(word) + "\\b").matcher(bare).find(), "6, 13: " + word);
        }
        must(!bare.contains("->") && !bare.contains("::"), "2: no lambda");
        Matcher system = Pattern.compile("System\\.(\\w+)").matcher(bare);
        while (system.find()) must(system.group(1).equals("arraycopy"), "4: " + system.group());
        Matcher arrays = Pattern.compile("Arrays\\.(\\w+)").matcher(bare);
        while (arrays.find()) must(List.of("fill", "copyOf", "copyOfRange").contains(arrays.group(1)), "4: " + arrays.group());
        // "The static functions of Integer, Long and Math": no constants of theirs, none whose name ends in Exact.
        Matcher functions = Pattern.compile("\\b(?:Integer|Long|Math)\\.(\\w+)(\\(?)").matcher(bare);
        while (functions.find()) must(!functions.group(1).endsWith("Exact") && !functions.group(2).isEmpty(), "4: " + functions.group());
        for (String kind : new String[] {"Short", "Byte", "Character", "Boolean", "Double", "Float", "Objects", "Collections", "Map", "Set", "Stream"}) {
            must(!Pattern.compile("\\b" + kind + "\\b").matcher(bare).find(), "4: " + kind);
        }
        for (char sign : source.toCharArray()) must(sign < 128, "4: sign " + (int) sign);
    }

    /** A method begins at a line that ends with "{" and has "(", and ends at "}" of the same depth. */
    private static void lengths(String source) {
        String[] lines = source.split("\n");
        Pattern head = Pattern.compile("^( {4}| {8})(?! )(?!.*\\b(?:class|if|for|while|switch)\\b).*\\(.*\\) \\{$");
        for (int i = 0; i < lines.length; i++) {
            Matcher m = head.matcher(lines[i]);
            if (!m.matches()) continue;
            int last = i;
            while (last < lines.length && !lines[last].equals(m.group(1) + "}")) last++;
            must(last - i < 60, "11: " + (last - i) + " lines of " + lines[i].trim());
        }
    }

    public static void main(String[] args) throws Exception {
        String source = Files.readString(Path.of("src/main/java/CrossShuts.java"));
        face();
        words(source);
        lengths(source);
        System.out.println(wrong == 0 ? "the language is kept to" : wrong + " breaches of the language");
        if (wrong != 0) System.exit(1);
    }
}
