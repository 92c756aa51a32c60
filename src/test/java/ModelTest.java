import java.util.Random;

/** Long runs of calls by chance (from a fixed seed), each answer held against the Model's. */
public final class ModelTest {
    private static final String[] CALLS = {"feed", "end", "text", "fault", "rule", "bridge", "one", "law", "hold",
        "chain", "shut", "send", "minute", "way", "can", "both", "rings", "guard", "game", "relay", "chance", "saw",
        "forget", "rigs", "hangs", "look", "keep", "back", "sheet", "lay", "read", "torn", "count"};

    private static Random r;
    private static CrossShuts x;
    private static Model m;
    private static int wrong = 0;
    private static int calls = 0;
    private static StringBuilder log;
    /** How many calls gave an answer that is no refusal, so that a run of refusals does not pass for a test. */
    private static final int[] served = new int[CALLS.length];

    public static void main(String[] args) {
        int runs = args.length > 0 ? Integer.parseInt(args[0]) : 250;
        long seed = args.length > 1 ? Long.parseLong(args[1]) : 20261118L;
        for (int run = 0; run < runs && wrong < 10; run++) {
            r = new Random(seed + run);
            x = new CrossShuts();
            m = new Model();
            calls = 0;
            log = new StringBuilder("run " + run);
            int small = run % 8 == 0 ? 6 : 2 + r.nextInt(4);
            if (run % 4 == 1) waysOfSix();
            while (calls < 380 && wrong < 10) {
                tell(small);
                askMuch(20 + r.nextInt(60));
                if (run % 8 == 0 && calls > 120) break;
            }
        }
        for (int c = 0; c < CALLS.length; c++) {
            if (served[c] == 0 && runs >= 100) {
                wrong++;
                System.out.println(CALLS[c] + " was never answered but by a refusal");
            }
        }
        System.out.println(wrong == 0 ? "the class answers as the model does" : wrong + " answers are not the model's");
        if (wrong != 0) System.exit(1);
    }

    private static void due(int call, String told, long got, long want) {
        calls++;
        log.append("; ").append(told);
        if (want >= 0) served[call]++;
        if (got != want) {
            wrong++;
            System.out.println(log + " answered " + got + ", the model " + want + " in " + m);
        }
    }

    private static int n(int most) {
        return r.nextInt(most + 1);
    }

    /** A text that is mostly well told. */
    private static void tell(int mostBridges) {
        StringBuilder s = new StringBuilder();
        int places = 2 + n(3), bridges = 1 + n(mostBridges - 1), people = n(3);
        if (r.nextInt(5) > 0) s.append("places ").append(places).append(blank()).append(';');
        else places = 2;
        if (r.nextInt(3) > 0) s.append(blank()).append("hold ").append(1 + n(2)).append(';');
        if (r.nextInt(3) > 0) s.append("law").append(blank()).append(n(2)).append(';').append(blank());
        for (int b = 0; b < bridges; b++) {
            int a = n(places - 1);
            s.append("bridge ").append(a).append(' ').append((a + 1 + n(places - 2)) % places).append(';');
        }
        for (int b = 0; b < bridges; b++) {
            if (bridges > 1 && r.nextInt(4) > 0) s.append("chain ").append(b).append(' ').append((b + 1 + n(bridges - 2)) % bridges).append(';');
            if (r.nextInt(5) == 0) s.append("shut ").append(b).append(" 0").append(1 + n(2)).append(';');
        }
        for (int p = 0; p < people || r.nextInt(20) > 0 && p < 2; p++) s.append("one ").append(n(places - 1)).append(' ').append(n(places - 1)).append(';');
        if (r.nextInt(3) == 0) spoil(s);
        put(s.toString());
    }

    /** Six bridges, so that the RESTS of all of them tell states apart. */
    private static void waysOfSix() {
        StringBuilder s = new StringBuilder("places 4;hold 3;law " + n(2) + ";");
        for (int b = 0; b < 6; b++) {
            int a = n(3);
            s.append("bridge ").append(a).append(' ').append((a + 1 + n(2)) % 4).append(';');
        }
        for (int b = 0; b < 6; b++) s.append("chain ").append(b).append(' ').append((b + 1 + n(4)) % 6).append(';');
        put(s.append("one 0 1;").toString());
        for (int from = 0; from < 4; from++) {
            due(11, "send(0," + from + "," + (from + 1) % 4 + ")", x.send(0, from, (from + 1) % 4), m.send(0, from, (from + 1) % 4));
            for (int b = 0; b < 6; b++) {
                int rest = n(3);
                due(10, "shut(" + b + "," + rest + ")", x.shut(b, rest), m.shut(b, rest));
            }
            due(14, "can(0)", x.can(0), m.can(0));
            for (int i = 0; i < 6; i++) {
                int what = i == 0 ? 0 : 9 + i;
                due(13, "way(0," + what + ")", x.way(0, what), m.way(0, what));
            }
        }
    }

    private static String blank() {
        return " ".repeat(r.nextInt(3) == 0 ? n(2) : 0);
    }

    private static void spoil(StringBuilder s) {
        String[] bits = {";", " ", "9", "0", "1", "6", "5", "100", "x", "places 3;", "hold 0;", "bridge 0 1;", "one 0 1;", "A", "chain 0 0;", "shut 0 1;"};
        for (int i = 0; i <= n(2); i++) {
            int at = n(s.length());
            int kind = r.nextInt(4);
            if (kind == 0 && at < s.length()) s.deleteCharAt(at);
            else if (kind == 1) s.setLength(at);
            else if (kind == 2) s.append(bits[n(bits.length - 1)]);
            else s.insert(at, bits[n(bits.length - 1)]);
        }
    }

    private static void put(String s) {
        int whole = s.length();
        for (int i = 0; i < whole; i += 8) {
            long v = 0;
            for (int j = 0; j < 8; j++) v = v << 8 | (i + j < whole ? s.charAt(i + j) : r.nextInt(256));
            due(0, "feed(" + v + ")", x.feed(v), m.feed(v));
        }
        due(1, "end(" + whole + ")", x.end(whole), m.end(whole));
        if (r.nextInt(10) == 0) due(1, "end(-1)", x.end(-1), m.end(-1));
        due(2, "text() of " + s, x.text(), m.text());
        due(3, "fault()", x.fault(), m.fault());
        all();
    }

    /** All that can be asked of what there is. */
    private static void all() {
        for (int what = 0; what < 6; what++) due(4, "rule", x.rule(what), m.rule(what));
        for (int b = 0; b < m.w.bridges.size(); b++) for (int what = 2; what < 4; what++) due(5, "bridge", x.bridge(b, what), m.bridge(b, what));
        for (int p = 0; p < m.w.people.size(); p++) due(6, "one", x.one(p, 2), m.one(p, 2));
    }

    private static int b() {
        return r.nextInt(12) == 0 ? n(8) - 1 : n(Math.max(0, m.w.bridges.size() - 1));
    }

    private static int p() {
        return r.nextInt(12) == 0 ? n(4) - 1 : n(Math.max(0, m.w.people.size() - 1));
    }

    private static int row() {
        return r.nextInt(2) == 0 ? 0 : r.nextInt(12) == 0 ? n(11) - 1 : 10 + n(7);
    }

    private static int pair() {
        return r.nextInt(12) == 0 ? n(4) - 1 : n(1);
    }

    private static int moves() {
        int all = 0;
        for (int q = 2; q >= 0; q--) {
            int bits = m.one(q, 2);
            int move = r.nextInt(4) == 0 ? n(7) : n(m.w.bridges.size());
            if (bits > 0 && r.nextInt(2) == 0) move = 1 + Integer.numberOfTrailingZeros(bits);
            if (bits < 0 && r.nextInt(8) > 0) move = 0;
            all = 8 * all + move;
        }
        return r.nextInt(40) == 0 ? -all : all;
    }

    private static void askMuch(int times) {
        for (int p = 0; p < m.w.people.size() && m.w.bridges.size() < 6; p++) {
            due(19, "relay(" + p + ",0)", x.relay(p, 0), m.relay(p, 0));
            due(19, "relay(" + p + ",1)", x.relay(p, 1), m.relay(p, 1));
        }
        for (int i = 0; i < times; i++) {
            int call = r.nextInt(CALLS.length);
            if (call < 8) change(4 + call);
            else if (call < 20) seek(call);
            else watch(20 + r.nextInt(CALLS.length - 20));
        }
        all();
    }

    private static void change(int call) {
        int a, b, c;
        switch (call) {
            case 4: a = n(8) - 1; due(4, "rule(" + a + ")", x.rule(a), m.rule(a)); break;
            case 5: a = b(); b = n(5) - 1; due(5, "bridge(" + a + "," + b + ")", x.bridge(a, b), m.bridge(a, b)); break;
            case 6: a = p(); b = n(4) - 1; due(6, "one(" + a + "," + b + ")", x.one(a, b), m.one(a, b)); break;
            case 7: a = n(4) - 1; due(7, "law(" + a + ")", x.law(a), m.law(a)); break;
            case 8: a = n(4); due(8, "hold(" + a + ")", x.hold(a), m.hold(a)); break;
            case 9: a = b(); b = r.nextInt(4) == 0 ? -4 : b(); due(9, "chain(" + a + "," + b + ")", x.chain(a, b), m.chain(a, b)); break;
            case 10: a = b(); b = n(5) - 1; due(10, "shut(" + a + "," + b + ")", x.shut(a, b), m.shut(a, b)); break;
            default: a = p(); b = n(5) - 1; c = n(4); due(11, "send(" + a + "," + b + "," + c + ")", x.send(a, b, c), m.send(a, b, c)); break;
        }
    }

    private static void seek(int call) {
        int a = p(), b = p(), c, d;
        switch (call) {
            case 13: d = row(); due(13, "way(" + a + "," + d + ")", x.way(a, d), m.way(a, d)); break;
            case 14: due(14, "can(" + a + ")", x.can(a), m.can(a)); break;
            case 15: d = row(); if (m.w.bridges.size() < 6 || r.nextInt(4) == 0) due(15, "both(" + a + "," + b + "," + d + ")", x.both(a, b, d), m.both(a, b, d)); break;
            case 16: due(16, "rings()", x.rings(), m.rings()); break;
            case 17: b = b(); c = m.w.bridges.size() > 4 ? n(5) : n(7); d = row(); due(17, "guard(" + a + "," + b + "," + c + "," + d + ")", x.guard(a, b, c, d), m.guard(a, b, c, d)); break;
            case 18: c = n(5) - 1; d = pair(); due(18, "game(" + a + "," + b + "," + c + "," + d + ")", x.game(a, b, c, d), m.game(a, b, c, d)); break;
            case 19: d = pair(); if (m.w.bridges.size() < 5 || r.nextInt(6) == 0) due(19, "relay(" + a + "," + d + ")", x.relay(a, d), m.relay(a, d)); break;
            default: c = moves(); due(12, "minute(" + c + ")", x.minute(c), m.minute(c)); break;
        }
    }

    private static void watch(int call) {
        int a, b, c, d;
        switch (call) {
            case 20: a = p(); c = n(7) - 1; d = pair(); due(20, "chance(" + a + "," + c + "," + d + ")", x.chance(a, c, d), m.chance(a, c, d)); break;
            case 21: see(); break;
            case 22: a = n(7) - 1; due(22, "forget(" + a + ")", x.forget(a), m.forget(a)); break;
            case 23: a = r.nextInt(2) == 0 ? 0 : 10 + b(); due(23, "rigs(" + a + ")", x.rigs(a), m.rigs(a)); break;
            case 24: a = b(); due(24, "hangs(" + a + ")", x.hangs(a), m.hangs(a)); break;
            case 25: a = pair(); if (m.w.bridges.size() < 6 || r.nextInt(6) == 0) due(25, "look(" + a + ")", x.look(a), m.look(a)); break;
            case 26: a = r.nextInt(10) == 0 ? 2 : n(1); due(26, "keep(" + a + ")", x.keep(a), m.keep(a)); break;
            case 27: a = r.nextInt(10) == 0 ? -1 : n(1); due(27, "back(" + a + ")", x.back(a), m.back(a)); break;
            case 28: a = n(4); b = n(3); c = r.nextInt(4) == 0 ? n(44) - 2 : n(6); due(28, "sheet(" + a + "," + b + "," + c + ")", x.sheet(a, b, c), m.sheet(a, b, c)); break;
            case 29: a = n(4); b = n(8) - 1; c = r.nextInt(8) == 0 ? r.nextInt() : moves(); due(29, "lay(" + a + "," + b + "," + c + ")", x.lay(a, b, c), m.lay(a, b, c)); break;
            case 30: a = n(4); b = n(3); c = n(6) - 1; d = r.nextInt(6) == 0 ? n(22) - 1 : n(5); due(30, "read(" + a + "," + b + "," + c + "," + d + ")", x.read(a, b, c, d), m.read(a, b, c, d)); break;
            case 31: due(31, "torn()", x.torn(), m.torn()); break;
            default: a = n(7) - 1; due(32, "count(" + a + ")", x.count(a), m.count(a)); break;
        }
    }

    /** Mostly what some rig would have shown, so that rigs are left. */
    private static void see() {
        for (int i = 0; i <= n(2); i++) {
            int a = r.nextInt(4) == 0 ? -4 : b(), b = b();
            boolean open = r.nextInt(3) > 0;
            due(21, "saw(" + a + "," + b + "," + open + ")", x.saw(a, b, open), m.saw(a, b, open));
        }
    }
}
