import com.sun.management.ThreadMXBean;
import java.lang.management.ManagementFactory;

/** The dearest calls on one object, up to its 512th call and no further: they end soon and make few objects. */
public final class RoomTest {
    /** Far under the room of 7.3 million elements, even if each were a byte. */
    private static final long MOST_BYTES = 4_000_000L;
    private static final long MOST_MILLIS = 120_000L;
    private static final int MOST_CALLS = 512;
    private static int wrong = 0;

    private interface Calls {
        long call(CrossShuts x, int i);
    }

    private static CrossShuts told(String s) {
        CrossShuts x = new CrossShuts();
        for (int i = 0; i < s.length(); i += 8) {
            long v = 0;
            for (int j = 0; j < 8; j++) v = v << 8 | (i + j < s.length() ? s.charAt(i + j) : ' ');
            x.feed(v);
        }
        x.text();
        return x;
    }

    /** A kind of so many calls at a time. */
    private static void look(String name, int atATime, String text, Calls calls) {
        ThreadMXBean bean = (ThreadMXBean) ManagementFactory.getThreadMXBean();
        long thread = Thread.currentThread().getId();
        calls.call(told(text), 0);
        long before = bean.getThreadAllocatedBytes(thread);
        long start = System.nanoTime();
        CrossShuts x = told(text);
        long sum = 0;
        int used = (text.length() + 7) / 8 + 1;
        for (int i = 0; used + atATime <= MOST_CALLS; i++, used += atATime) sum += calls.call(x, i);
        long millis = (System.nanoTime() - start) / 1_000_000;
        long bytes = bean.getThreadAllocatedBytes(thread) - before;
        System.out.println(name + ": " + bytes + " bytes, " + millis + " ms (" + sum + ")");
        if (bytes > MOST_BYTES || millis > MOST_MILLIS) wrong++;
    }

    public static void main(String[] args) {
        String wide = "places 5;hold 3;bridge 0 1;bridge 1 2;bridge 2 3;bridge 0 1;bridge 1 2;bridge 0 2;"
            + "chain 0 1;chain 1 2;chain 2 3;chain 3 4;chain 4 5;chain 5 0;one 0 4;one 1 4;one 3 4;";
        String law2 = "law 2;" + wide;
        String pair = "hold 3;bridge 0 1;bridge 0 1;bridge 0 1;bridge 0 1;bridge 0 1;bridge 0 1;"
            + "chain 0 1;chain 1 2;chain 2 3;chain 3 4;chain 4 5;chain 5 0;one 0 1;one 1 0;one 0 0;";
        look("way", 1, wide, (x, i) -> x.way(0, 0));
        look("can", 1, wide, (x, i) -> x.can(i % 3));
        look("both", 1, wide, (x, i) -> x.both(0, 1, 0));
        look("both by law 2", 1, law2, (x, i) -> x.both(1, 2, 10));
        look("relay", 1, wide, (x, i) -> x.relay(0, 0));
        look("guard", 1, pair, (x, i) -> x.guard(0, i % 6, 6, 0));
        look("guard by hold 1", 1, "hold 1;" + pair.substring(7), (x, i) -> x.guard(0, i % 6, 6, 0));
        look("game", 1, wide, (x, i) -> x.game(0, 1, 3, 0));
        look("game of a pair", 2, pair, (x, i) -> x.game(2, 0, 3, 0) + x.game(0, 1, 3, 1));
        look("chance", 1, pair, (x, i) -> x.chance(0, 5, 1));
        look("look", 4, pair, (x, i) -> {
            x.saw(i % 6, i % 6, true);
            return x.look(0) + x.hangs(0) + x.rigs(10);
        });
        look("sheets", 4, pair, (x, i) -> x.sheet(i % 4, i % 3, 40) + x.read(i % 4, i % 3, 0, 2) + x.keep(i % 2) + x.back(i % 2));
        look("texts", 2, pair, (x, i) -> x.feed(0x6c617720323b2020L) + x.text());
        if (wrong != 0) {
            System.out.println(wrong + " kinds of calls are too dear");
            System.exit(1);
        }
        System.out.println("all calls keep to the room");
    }
}
