import java.io.IOException;
import java.lang.reflect.Method;
import java.nio.file.Files;
import java.nio.file.Path;
import java.util.ArrayList;
import java.util.Comparator;
import java.util.List;
import java.util.TreeSet;

/** Runs the tests that bear a sentence of the document, and tells which sentences do not hold. */
final class Sentences {
    private static final int PROMISES = 34;

    private Sentences() { }

    /** Answers how many sentences are broken; a promise without a test counts as one. */
    static int broken(Class<?>... all) throws Exception {
        List<Method> tests = new ArrayList<>();
        for (Class<?> c : all) {
            for (Method m : c.getDeclaredMethods()) if (m.isAnnotationPresent(Says.class)) tests.add(m);
        }
        tests.sort(Comparator.comparingInt((Method m) -> m.getAnnotation(Says.class).promise()).thenComparing(Method::getName));
        String document = document();
        TreeSet<Integer> met = new TreeSet<>();
        int broken = 0;
        for (Method m : tests) {
            Says says = m.getAnnotation(Says.class);
            met.add(says.promise());
            m.setAccessible(true);
            m.invoke(null);
            List<String> wrong = Run.takeWrong();
            if (!wrong.isEmpty()) broken++;
            for (String w : wrong) System.out.println("promise " + says.promise() + ", \"" + says.value() + "\", " + m.getName() + ": " + w);
            // Not counted: a document that is worded anew does not make the program wrong.
            if (!document.isEmpty() && !document.contains(plain(says.value()))) System.out.println("note: the document does not say \"" + says.value() + "\"");
        }
        for (int p = 0; p <= PROMISES; p++) {
            if (!met.contains(p)) {
                broken++;
                System.out.println("promise " + p + " has no test of a sentence");
            }
        }
        System.out.println(tests.size() + " sentences, " + broken + " broken");
        return broken;
    }

    private static String document() throws IOException {
        Path path = Path.of("../shared/DOC.md");
        return Files.exists(path) ? plain(Files.readString(path)) : "";
    }

    private static String plain(String text) {
        return text.replaceAll("\\s+", " ");
    }
}
