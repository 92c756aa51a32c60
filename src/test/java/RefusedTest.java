import java.util.ArrayList;
import java.util.HashMap;
import java.util.List;
import java.util.Map;

/**
 * "What is refused changes nothing (but THE TAPE, as told)": of two objects made by the same calls one is given a
 * call that is refused; then both must answer alike to all that can be asked. So, too, for a call that only asks.
 */
public final class RefusedTest {
    private static final int BAD = Run.BAD, STATE = Run.STATE, FULL = Run.FULL, NONE = Run.NONE;
    private static final String SIX = Run.times(6, "bridge 0 1;");
    private static final int[] LANES = {0, 1, 2, 0};

    private enum State { NEW, TOLD, FULL_UP }

    private static final Map<String, List<Long>> KNOWN = new HashMap<>();
    private static int looked = 0;

    // ---- the states

    private static Run made(State state) {
        switch (state) {
            case TOLD: return told();
            case FULL_UP: return fullUp();
            default: return new Run();
        }
    }

    /** Something of everything: minutes gone, one IMAGE, two SEEN, three SHEETS, a FAULT of each kind, bytes on THE TAPE. */
    private static Run told() {
        Run r = Run.told("places 4;hold 3;law 1;bridge 0 1;bridge 1 2;bridge 2 3;bridge 0 3;chain 0 1;chain 1 2;chain 3 0;shut 2 3;one 0 3;one 3 0;one 1 1;");
        r.is("minute(1)", 0).is("keep(0)", 0).is("minute(32)", 0).is("saw(0, 1, false)", 1).is("saw(NONE, 2, true)", 2);
        r.does("sheet(0, 0, 5)", "lay(0, 0, 1)", "lay(0, 3, 2)", "sheet(1, 1, 40)", "lay(1, 7, 8)", "lay(1, 39, 1)", "sheet(2, 2, 3)", "lay(2, 1, 9999)", "lay(2, 2, 64)");
        r.is("read(0, 0, 4, 2)", 1).is("torn()", 2);
        return r.faulty("law 7;", 3, 4).put("law 2;one 0 1;bridge 0 1;");
    }

    /** As much of everything as there may be. */
    private static Run fullUp() {
        Run r = Run.told("places 5;" + SIX + "chain 0 1;chain 1 2;chain 2 3;chain 3 4;chain 4 5;chain 5 0;one 0 1;one 0 4;one 1 1;").does("keep(0)", "sheet(3, 0, 40)");
        for (int i = 0; i < 49; i++) r.ask("read(3, 0, 0, 20)");
        r.is("read(3, 0, 0, 18)", 18).is("minute(1)", 0).is("keep(1)", 0).does("sheet(0, 0, 40)", "sheet(1, 1, 40)", "sheet(2, 2, 40)");
        for (int k = 0; k < 3; k++) r.does("lay(" + k + ", 0, 1)", "lay(" + k + ", 13, 6)", "lay(" + k + ", 39, 2)");
        r.does("lay(3, 2, 1)", "lay(3, 39, 9)");
        for (int i = 0; i < 6; i++) r.is("saw(" + i % 2 + ", 3, true)", i + 1);
        return r.put("law 1;hold 3;bridge 1 0;" + " ".repeat(288) + "one 1 0;");
    }

    // ---- what can be asked

    private static List<String> asks(boolean faults) {
        List<String> all = new ArrayList<>();
        if (faults) all.addAll(List.of("fault()", "torn()", "count(4)"));
        for (int what : new int[] {0, 1, 2, 3, 5}) all.add("count(" + what + ")");
        for (int what = 0; what < 6; what++) all.add("rule(" + what + ")");
        for (int b = 0; b < 6; b++) {
            for (int what = 0; what < 4; what++) all.add("bridge(" + b + ", " + what + ")");
            all.addAll(List.of("hangs(" + b + ")", "rigs(" + (10 + b) + ")", "guard(0, " + b + ", 3, 0)", "guard(1, " + b + ", 4, 11)"));
        }
        for (int p = 0; p < 3; p++) {
            for (int what = 0; what < 3; what++) all.add("one(" + p + ", " + what + ")");
            for (String call : new String[] {"way(#, 0)", "way(#, 10)", "can(#)", "relay(#, 0)", "relay(#, 1)", "chance(#, 3, 0)", "chance(#, 3, 1)"}) {
                all.add(call.replace("#", Integer.toString(p)));
            }
        }
        all.addAll(List.of("rings()", "both(0, 1, 0)", "both(2, 0, 10)", "game(0, 1, 3, 0)", "game(1, 2, 2, 1)", "rigs(0)", "look(0)", "look(1)"));
        return all;
    }

    private static List<String> tape() {
        List<String> all = new ArrayList<>(List.of("count(4)", "text()"));
        all.addAll(asks(true));
        return all;
    }

    private static List<String> image(int k) {
        List<String> all = new ArrayList<>(List.of("back(" + k + ")"));
        all.addAll(asks(true));
        return all;
    }

    private static List<String> seen() {
        List<String> all = new ArrayList<>(List.of("saw(0, 0, true)"));
        for (int n = 6; n >= 0; n--) {
            all.add("forget(" + n + ")");
            all.add("rigs(0)");
            for (int b = 0; b < 6; b++) all.add("hangs(" + b + ")");
        }
        return all;
    }

    /** From IMAGE 0, for at the 999th MINUTE no CELL would tell of itself; a read() that goes puts torn() out of play. */
    private static List<String> sheets(int first) {
        List<String> all = new ArrayList<>(List.of("back(0)", "read(0, 0, 1, 1)", "count(5)"));
        for (int k = first; k < first + 2; k++) {
            for (int lane = 0; lane < 3; lane++) all.addAll(List.of("read(" + k + ", " + lane + ", 0, 1)", "torn()"));
            for (int i = 0; i <= 40; i++) all.addAll(List.of("read(" + k + ", " + LANES[k] + ", " + i + ", 1)", "one(0, 0)", "one(1, 0)"));
        }
        return all;
    }

    private static List<List<String>> probes(boolean faults) {
        List<List<String>> all = new ArrayList<>(List.of(asks(faults), seen(), sheets(0), sheets(2)));
        if (faults) all.addAll(List.of(tape(), image(0), image(1)));
        return all;
    }

    private static List<Long> answers(Run r, List<String> calls) {
        List<Long> all = new ArrayList<>();
        for (String call : calls) all.add(r.ask(call));
        return all;
    }

    // ---- the comparison

    private interface Step {
        void on(Run r);
    }

    private static void same(State state, String name, boolean faults, Step step) {
        List<List<String>> probes = probes(faults);
        for (int i = 0; i < probes.size(); i++) {
            List<String> calls = probes.get(i);
            List<Long> want = KNOWN.computeIfAbsent(state + " " + faults + " " + i, z -> answers(made(state), calls));
            Run r = made(state);
            step.on(r);
            List<Long> got = answers(r, calls);
            for (int j = 0; j < calls.size(); j++) {
                if (!got.get(j).equals(want.get(j))) {
                    Run.wrong(state + ": behind " + name + " " + calls.get(j) + " answered " + got.get(j) + ", without it " + want.get(j));
                    break;
                }
            }
        }
        looked++;
    }

    private static void refused(State state, long want, String... calls) {
        for (String call : calls) same(state, call, true, r -> r.is(call, want));
    }

    // ---- the calls

    private static void noSuchNumbers(State state) {
        refused(state, BAD, "rule(-1)", "rule(6)", "law(-1)", "law(3)", "hold(0)", "hold(4)", "keep(-1)", "keep(2)", "back(-1)", "back(2)", "count(-1)", "count(6)", "look(-1)", "look(2)",
            "rigs(-1)", "rigs(1)", "rigs(9)", "rigs(16)", "hangs(-1)", "hangs(6)", "forget(-1)", "forget(7)", "end(-1)", "end(321)", "end(MIN)", "end(MAX)",
            "bridge(-1, 0)", "bridge(6, 0)", "bridge(0, 4)", "bridge(0, -1)", "one(-1, 0)", "one(3, 0)", "one(0, 3)", "one(0, -1)",
            "chain(-1, 0)", "chain(6, 0)", "chain(0, 0)", "chain(0, 6)", "chain(0, -1)", "chain(6, NONE)", "shut(-1, 0)", "shut(6, 1)", "shut(0, 4)", "shut(0, -1)",
            "send(-1, 0, 0)", "send(3, 0, 0)", "send(0, 5, 0)", "send(0, 0, 5)", "send(0, -1, 0)", "send(0, 0, -1)", "minute(-1)", "minute(7)", "minute(56)", "minute(448)", "minute(512)",
            "minute(MIN)", "minute(MAX)", "way(-1, 0)", "way(3, 0)", "way(0, 1)", "way(0, 9)", "way(0, -1)", "can(-1)", "can(3)", "both(0, 0, 0)", "both(0, 3, 0)", "both(-1, 0, 0)", "both(0, 1, 1)",
            "guard(3, 0, 1, 0)", "guard(0, 6, 1, 0)", "guard(0, 0, 0, 0)", "guard(0, 0, 7, 0)", "guard(0, 0, 1, 1)", "game(0, 0, 1, 0)", "game(0, 3, 1, 0)", "game(3, 0, 1, 0)", "game(0, 1, 4, 0)",
            "game(0, 1, -1, 0)", "game(0, 1, 1, 2)", "relay(3, 0)", "relay(0, 2)", "relay(-1, 0)", "chance(3, 1, 0)", "chance(0, 6, 0)", "chance(0, -1, 0)", "chance(0, 1, 2)",
            "saw(-1, 0, true)", "saw(6, 0, true)", "saw(0, 6, false)", "saw(0, NONE, false)", "sheet(-1, 0, 1)", "sheet(4, 0, 1)", "sheet(0, 3, 1)", "sheet(0, -1, 1)", "sheet(0, 0, 41)",
            "sheet(1, 1, MAX)", "lay(-1, 0, 1)", "lay(4, 0, 1)", "read(-1, 0, 0, 1)", "read(4, 0, 0, 1)", "read(0, -1, 0, 1)", "read(0, 3, 0, 1)", "read(1, 1, 0, -1)", "read(1, 1, 0, 21)");
        refused(state, -14, "sheet(0, 0, -1)", "sheet(1, 1, MIN)", "sheet(2, 0, -40)", "sheet(3, 2, -1)");
    }

    private static void ofNew() {
        State s = State.NEW;
        noSuchNumbers(s);
        refused(s, BAD, "end(1)", "bridge(0, 0)", "one(0, 0)", "chain(0, 1)", "chain(0, NONE)", "shut(0, 0)", "send(0, 0, 0)", "minute(1)", "way(0, 0)", "can(0)", "both(0, 1, 0)", "guard(0, 0, 1, 0)",
            "game(0, 1, 1, 0)", "relay(0, 0)", "chance(0, 1, 0)", "saw(NONE, 0, true)", "forget(1)", "rigs(10)", "hangs(0)");
        refused(s, STATE, "back(0)", "back(1)");
        refused(s, NONE, "look(0)", "look(1)", "count(5)");
        refused(s, -11, "lay(0, 0, 1)", "lay(3, -1, 1)");
    }

    private static void ofTold() {
        State s = State.TOLD;
        noSuchNumbers(s);
        refused(s, BAD, "end(26)", "bridge(4, 0)", "chain(4, 0)", "chain(0, 4)", "chain(1, 1)", "shut(4, 1)", "shut(2, 4)", "send(0, 4, 0)", "send(0, 0, 4)", "send(2, 3, -1)", "minute(5)", "minute(40)",
            "minute(321)", "guard(0, 4, 1, 0)", "saw(4, 0, true)", "saw(0, 4, true)", "forget(3)", "rigs(14)", "hangs(4)");
        refused(s, STATE, "back(1)");
        refused(s, NONE, "way(2, 10)", "way(0, MAX)", "both(0, 1, MAX)", "game(2, 0, 1, 1)", "game(0, 1, 0, 0)", "relay(2, 0)");
        refused(s, -11, "lay(3, 0, 1)", "lay(3, -1, 1)", "lay(3, 40, 1)");
        refused(s, -12, "lay(0, 5, 1)", "lay(0, -1, 1)", "lay(1, 40, 1)", "lay(1, -1, 1)", "lay(2, 3, 1)", "lay(0, MIN, 1)", "lay(2, MAX, 1)");
        refused(s, -20, "read(2, 2, 1, 1)", "read(2, 2, 1, 20)");
        refused(s, -21, "read(2, 2, 0, 2)", "read(2, 2, 0, 20)");
        refused(s, -23, "read(0, 0, 0, 4)", "read(0, 0, 0, 20)");
    }

    private static void ofFullUp() {
        State s = State.FULL_UP;
        noSuchNumbers(s);
        refused(s, BAD, "rigs(16)", "minute(8191)", "minute(503)");
        refused(s, FULL, "feed(0)", "feed(-1)", "feed(2314885530818453536)", "minute(0)", "minute(2)", "minute(438)", "saw(0, 0, true)", "saw(NONE, 3, false)");
        refused(s, -12, "lay(0, 40, 1)", "lay(1, 40, 1)", "lay(2, 40, 1)", "lay(3, 40, 1)", "lay(0, -1, 1)", "lay(3, -1, 1)");
        refused(s, -20, "read(0, 0, 1, 1)", "read(1, 1, 0, 20)", "read(2, 2, 39, 20)");
    }

    /** A text with a FAULT leaves THE TAPE empty and tells its FAULT; all else stays. */
    private static void ofTexts() {
        String[] texts = {"places 2;law 0;!", "places 2;law 0", "places 2;hold 1;law 3;", "places 2;bridge 0 1;shut 0 1;law 0;law 0;", SIX + "one 0 0;bridge", "one 1 1;hold 1;bridge 0 1;chain 0 1;"};
        for (State state : State.values()) {
            for (int i = 0; i < texts.length; i++) {
                String text = texts[i];
                int which = i + 1;
                same(state, "text() of '" + text + "'", false, r -> r.put(text).does("text()").is("fault()", which));
            }
        }
    }

    /** What the machine refuses at once, too, leaves all but torn() as it was. */
    private static void ofTornSheets() {
        for (String call : new String[] {"read(0, 1, 0, 1)", "read(0, 0, 5, 1)", "read(0, 0, -1, 20)", "read(3, 0, 0, 20)", "read(2, 1, 0, 1)", "read(1, 1, 40, 1)", "read(0, 0, 0, 0)"}) {
            same(State.TOLD, call, false, r -> r.is(call, 0));
        }
        same(State.FULL_UP, "read(0, 0, 40, 1)", false, r -> r.is("read(0, 0, 40, 1)", 0));
    }

    private static void ofAsking() {
        for (State state : State.values()) {
            for (String call : asks(true)) same(state, call, true, r -> r.ask(call));
            same(state, "all that can be asked", true, r -> answers(r, asks(true).subList(0, 60)));
        }
    }

    public static void main(String[] args) {
        ofNew();
        ofTold();
        ofFullUp();
        ofTexts();
        ofTornSheets();
        ofAsking();
        List<String> wrong = Run.takeWrong();
        for (String w : wrong) System.out.println(w.length() > 600 ? w.substring(0, 300) + " .. " + w.substring(w.length() - 300) : w);
        System.out.println(looked + " calls that change nothing, " + wrong.size() + " answers changed");
        if (!wrong.isEmpty()) System.exit(1);
    }
}
