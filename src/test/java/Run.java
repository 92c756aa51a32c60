import java.lang.reflect.Method;
import java.util.ArrayList;
import java.util.Arrays;
import java.util.HashMap;
import java.util.List;
import java.util.Map;

/** A run of calls on one new object, each written as in the document, with the answer that is due. */
final class Run {
    static final int BAD = -1, STATE = -2, FULL = -3, NONE = -4;
    static final int MIN = Integer.MIN_VALUE, MAX = Integer.MAX_VALUE;
    static final int MOST_CALLS = 512;

    private static final Map<String, Method> FACE = face();
    private static final List<String> WRONG = new ArrayList<>();

    private final CrossShuts x = new CrossShuts();
    private final StringBuilder log = new StringBuilder("a new object");
    private int calls = 0;

    private static Map<String, Method> face() {
        Map<String, Method> all = new HashMap<>();
        for (Method m : CrossShuts.class.getMethods()) {
            if (m.getDeclaringClass() == CrossShuts.class) all.put(m.getName(), m);
        }
        return all;
    }

    /** A new object, to which a text that must be taken is told. */
    static Run told(String text) {
        Run run = new Run();
        long lines = run.tell(text);
        if (lines < 0) WRONG.add("no text: " + text + " answered " + lines);
        return run;
    }

    /** A new object with a text told, THE MINUTE being 999 with nobody having moved. */
    static Run late(String text) {
        Run run = told(text).does("sheet(3, 0, 20)");
        for (int i = 0; i < 49; i++) run.ask("read(3, 0, 0, 20)");
        return run.is("read(3, 0, 0, 19)", 19).is("rule(5)", 999);
    }

    /** Puts a text on THE TAPE in place of what it has. */
    Run put(String text) {
        ask("end(0)");
        for (int i = 0; i < text.length(); i += 8) {
            long v = 0;
            for (int j = i; j < i + 8; j++) v = v << 8 | (j < text.length() ? text.charAt(j) & 255 : ' ');
            ask("feed(" + v + ")");
        }
        ask("end(" + text.length() + ")");
        return this;
    }

    long tell(String text) {
        put(text);
        log.append("; THE TAPE: '").append(text).append('\'');
        return ask("text()");
    }

    /** A call such as "saw(0, 1, true)" and its answer. */
    long ask(String call) {
        int bracket = call.indexOf('(');
        String name = call.substring(0, bracket);
        String inside = call.substring(bracket + 1, call.length() - 1).trim();
        String[] words = inside.isEmpty() ? new String[0] : inside.split(" *, *");
        Method m = FACE.get(name);
        if (m == null || m.getParameterCount() != words.length) throw new IllegalArgumentException(call);
        Object[] with = new Object[words.length];
        for (int i = 0; i < words.length; i++) with[i] = value(m.getParameterTypes()[i], words[i]);
        calls++;
        if (calls > MOST_CALLS) throw new IllegalStateException("more calls than are promised: " + log);
        if (!name.equals("feed") && !name.equals("end")) log.append("; ").append(call);
        try {
            return ((Number) m.invoke(x, with)).longValue();
        } catch (ReflectiveOperationException e) {
            WRONG.add(log + " threw " + e.getCause());
            return Long.MIN_VALUE;
        }
    }

    private static Object value(Class<?> type, String word) {
        if (type == boolean.class) return Boolean.valueOf(word);
        if (type == long.class) return Long.valueOf(word);
        switch (word) {
            case "NONE": return NONE;
            case "MIN": return MIN;
            case "MAX": return MAX;
            default: return Integer.valueOf(word);
        }
    }

    /** The call must answer so. */
    Run is(String call, long want) {
        long got = ask(call);
        if (got != want) WRONG.add(log + " answered " + got + ", due is " + want);
        return this;
    }

    /** Each of the calls must answer so. */
    Run are(long want, String... all) {
        for (String call : all) is(call, want);
        return this;
    }

    /** The call, with the numbers from 0 on in place of #, must answer so. */
    Run row(String call, long... want) {
        for (int i = 0; i < want.length; i++) is(call.replace("#", Integer.toString(i)), want[i]);
        return this;
    }

    /** The call, with the numbers from 10 on in place of #, must answer so. */
    Run moves(String call, long... want) {
        for (int i = 0; i < want.length; i++) is(call.replace("#", Integer.toString(10 + i)), want[i]);
        return this;
    }

    Run does(String... all) {
        for (String call : all) ask(call);
        return this;
    }

    /** The text must be refused with this FAULT at this place of THE TAPE, THE TAPE being empty then. */
    Run faulty(String text, int which, int place) {
        long got = tell(text);
        if (got != -10 - place) WRONG.add(log + " answered " + got + ", due is " + (-10 - place));
        return is("fault()", which).is("count(4)", 0);
    }

    /** The text must be taken, with so many lines. */
    Run taken(String text, int lines) {
        long got = tell(text);
        if (got != lines) WRONG.add(log + " answered " + got + ", due is " + lines);
        return is("fault()", 0).is("count(4)", 0);
    }

    int left() {
        return MOST_CALLS - calls;
    }

    static void wrong(String what) {
        WRONG.add(what);
    }

    /** What has been found wrong since it was asked last. */
    static List<String> takeWrong() {
        List<String> all = new ArrayList<>(WRONG);
        WRONG.clear();
        return all;
    }

    static String times(int n, String text) {
        return String.join("", Arrays.asList(new String[n]).stream().map(z -> text).toList());
    }
}
