import java.lang.reflect.Method;
import java.lang.reflect.Modifier;
import java.util.ArrayList;
import java.util.Arrays;
import java.util.Comparator;
import java.util.List;
import java.util.Random;

/** Every call with arguments from all over, in any state: none throws, each answers as the Model does. */
public final class WildTest {
    private static final int[] POOL = {0, 0, 0, 1, 1, 1, 2, 2, 3, 3, 4, 5, 6, 7, 8, 9, 10, 11, 12, 13, 14, 15, 16, 20, 21,
        39, 40, 41, 64, 65, 320, 511, 512, 999, 1000, -1, -2, -3, -4, -5, -10, 1 << 16, 1 << 29, 1 << 30,
        Integer.MAX_VALUE, Integer.MAX_VALUE - 9, Integer.MIN_VALUE, Integer.MIN_VALUE + 9};
    private static final String[] TEXTS = {"", "places 2;", "one 0 1;", "bridge 0 1;", "bridge 0 1;one 0 1;one 1 0;",
        "places 3;hold 1;bridge 0 1;bridge 1 2;bridge 0 2;chain 0 1;chain 1 2;one 0 2;one 2 0;one 1 1;",
        "places 4;law 1;bridge 0 1;bridge 1 2;bridge 2 3;bridge 0 3;chain 0 1;shut 3 2;one 0 3;one 3 0;",
        "law 2;hold 3;bridge 0 1;bridge 0 1;bridge 0 1;one 0 1;one 0 0;one 1 0;"};

    public static void main(String[] args) throws Exception {
        List<Method> calls = new ArrayList<>();
        for (Method m : CrossShuts.class.getDeclaredMethods()) if (Modifier.isPublic(m.getModifiers())) calls.add(m);
        calls.sort(Comparator.comparing(Method::getName));
        int wrong = 0;
        for (int run = 0; run < 120 && wrong < 10; run++) {
            Random r = new Random(7000 + run);
            CrossShuts x = new CrossShuts();
            Model model = new Model();
            StringBuilder log = new StringBuilder("run " + run);
            tell(x, model, TEXTS[run % TEXTS.length]);
            for (int i = 0; i < 450 && wrong < 10; i++) {
                Method m = calls.get(r.nextInt(calls.size()));
                Object[] with = new Object[m.getParameterCount()];
                for (int a = 0; a < with.length; a++) with[a] = any(m.getParameterTypes()[a], r);
                Method same = Model.class.getDeclaredMethod(m.getName(), m.getParameterTypes());
                long want = ((Number) same.invoke(model, with)).longValue();
                long got = ((Number) m.invoke(x, with)).longValue();
                log.append("; ").append(m.getName()).append(Arrays.toString(with));
                if (m.getName().equals("text")) tell(x, model, TEXTS[r.nextInt(TEXTS.length)]);
                if (got != want) {
                    wrong++;
                    System.out.println(log + " answered " + got + ", the model " + want);
                }
            }
        }
        System.out.println(wrong == 0 ? "no call throws, all are as the model's" : wrong + " answers are not the model's");
        if (wrong != 0) System.exit(1);
    }

    private static Object any(Class<?> type, Random r) {
        if (type == boolean.class) return r.nextBoolean();
        if (type == long.class) return r.nextLong();
        return POOL[r.nextInt(r.nextBoolean() ? 10 : POOL.length)];
    }

    private static void tell(CrossShuts x, Model model, String s) {
        x.end(0);
        model.end(0);
        for (int i = 0; i < s.length(); i += 8) {
            long v = 0;
            for (int j = 0; j < 8; j++) v = v << 8 | (i + j < s.length() ? s.charAt(i + j) : ' ');
            x.feed(v);
            model.feed(v);
        }
        x.text();
        model.text();
    }
}
