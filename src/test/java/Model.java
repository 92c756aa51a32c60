import java.math.BigInteger;
import java.util.ArrayDeque;
import java.util.ArrayList;
import java.util.Arrays;
import java.util.HashMap;
import java.util.List;
import java.util.Map;

/** The document told once more, in the plainest and slowest way, to hold the class against. */
final class Model {
    static final int BAD = -1, STATE = -2, FULL = -3, NONE = -4;

    /** All of BRIDGES, PEOPLE, LAW, HOLD, THE MINUTE. */
    static final class World {
        int places = 2, law = 0, hold = 2, minute = 0;
        List<int[]> bridges = new ArrayList<>(); // first, second, hanging (or NONE), REST, shut in this minute
        List<int[]> people = new ArrayList<>(); // place, goal

        World copy() {
            World w = new World();
            w.places = places;
            w.law = law;
            w.hold = hold;
            w.minute = minute;
            for (int[] b : bridges) w.bridges.add(b.clone());
            for (int[] p : people) w.people.add(p.clone());
            return w;
        }

        boolean open(int b) {
            return bridges.get(b)[3] == 0 && bridges.get(b)[4] == 0;
        }

        boolean canCross(int p, int b) {
            int at = people.get(p)[0];
            return open(b) && (bridges.get(b)[0] == at || bridges.get(b)[1] == at);
        }

        void shut(int b) {
            if (b >= 0 && b < bridges.size()) bridges.get(b)[4] = 1;
        }

        void cross(int p, int b) {
            int[] on = bridges.get(b);
            int at = people.get(p)[0];
            people.get(p)[0] = on[0] + on[1] - at;
            if (law == 0) shut(on[2]);
            if (law == 1) {
                shut(b);
                if (on[2] != NONE) {
                    bridges.get(on[2])[3] = 0;
                    bridges.get(on[2])[4] = 0;
                }
            }
            if (law == 2) {
                shut(b - 1);
                shut(b + 1);
            }
        }

        /** Whether the move was made as told. */
        boolean move(int p, int move) {
            if (move == 0) return true;
            if (move > bridges.size() || !canCross(p, move - 1)) return false;
            cross(p, move - 1);
            return true;
        }

        void endMinute() {
            for (int[] b : bridges) {
                if (b[4] == 1) b[3] = hold;
                else if (b[3] > 0) b[3]--;
                b[4] = 0;
            }
            minute++;
        }

        boolean atGoal(int p) {
            return people.get(p)[0] == people.get(p)[1];
        }

        String key() {
            StringBuilder s = new StringBuilder();
            for (int[] b : bridges) s.append(b[3]);
            for (int[] p : people) s.append('/').append(p[0]);
            return s.toString();
        }
    }

    World w = new World();
    World[] images = new World[2];
    String tape = "";
    int fault = 0, torn = 0;
    List<int[]> seen = new ArrayList<>();
    Object[] sheets = new Object[4];

    boolean isBridge(int b) { return b >= 0 && b < w.bridges.size(); }
    boolean isOne(int p) { return p >= 0 && p < w.people.size(); }
    boolean isPlace(int x) { return x >= 0 && x < w.places; }

    int feed(long v) {
        if (tape.length() + 8 > 320) return FULL;
        for (int i = 7; i >= 0; i--) tape += (char) (v >>> 8 * i & 255);
        return tape.length();
    }

    int end(int n) {
        if (n < 0 || n > tape.length()) return BAD;
        int had = tape.length();
        tape = tape.substring(0, n);
        return had;
    }

    static final class Fault extends RuntimeException {
        private static final long serialVersionUID = 1;
        final int which, place;
        Fault(int which, int place) {
            this.which = which;
            this.place = place;
        }
    }

    /** Reads one token at a time off a text. */
    static final class Lexer {
        final String s;
        int at = 0, start = 0;
        Lexer(String s) { this.s = s; }
        String next() {
            while (at < s.length() && s.charAt(at) == ' ') at++;
            start = at;
            if (at == s.length()) return "";
            for (String kind : new String[] {"[a-z]+", "[0-9]+", ";"}) {
                java.util.regex.Matcher m = java.util.regex.Pattern.compile(kind).matcher(s);
                if (m.region(at, s.length()).lookingAt()) {
                    if (kind.equals("[0-9]+") && m.end() - at > 2) throw new Fault(1, start);
                    at = m.end();
                    return m.group();
                }
            }
            throw new Fault(1, start);
        }
        int number(int least, int most) {
            String t = next();
            if (t.isEmpty() || t.charAt(0) < '0' || t.charAt(0) > '9') throw new Fault(2, start);
            int v = Integer.parseInt(t);
            if (v < least || v > most) throw new Fault(3, start);
            return v;
        }
    }

    int text() {
        String s = tape;
        tape = "";
        try {
            World told = new World();
            int lines = parse(s, told);
            fault = 0;
            w = told;
            images = new World[2];
            seen.clear();
            return lines;
        } catch (Fault f) {
            fault = f.which;
            return -10 - f.place;
        }
    }

    private static int parse(String s, World told) {
        Lexer x = new Lexer(s);
        List<String> once = new ArrayList<>();
        Map<Integer, Integer> chains = new HashMap<>(), shuts = new HashMap<>();
        int lines = 0, far = 0, farBridge = -1;
        for (String t = x.next(); !t.isEmpty(); t = x.next()) {
            if (!List.of("places", "hold", "law", "bridge", "chain", "shut", "one").contains(t)) throw new Fault(2, x.start);
            if (once.contains(t)) throw new Fault(4, x.start);
            if (t.equals("places")) { told.places = x.number(2, 5); once.add(t); }
            if (t.equals("hold")) { told.hold = x.number(1, 3); once.add(t); }
            if (t.equals("law")) { told.law = x.number(0, 2); once.add(t); }
            if (t.equals("bridge")) {
                if (told.bridges.size() == 6) throw new Fault(5, x.start);
                int a = x.number(0, 4), b = x.number(0, 4);
                if (a == b) throw new Fault(4, x.start);
                told.bridges.add(new int[] {a, b, NONE, 0, 0});
                far = Math.max(far, Math.max(a, b));
            }
            if (t.equals("chain")) {
                int a = x.number(0, 5);
                if (chains.containsKey(a)) throw new Fault(4, x.start);
                int b = x.number(0, 5);
                if (a == b) throw new Fault(4, x.start);
                chains.put(a, b);
                farBridge = Math.max(farBridge, Math.max(a, b));
            }
            if (t.equals("shut")) {
                int a = x.number(0, 5);
                if (shuts.containsKey(a)) throw new Fault(4, x.start);
                shuts.put(a, x.number(1, 3));
                farBridge = Math.max(farBridge, a);
            }
            if (t.equals("one")) {
                if (told.people.size() == 3) throw new Fault(5, x.start);
                int a = x.number(0, 4), b = x.number(0, 4);
                told.people.add(new int[] {a, b});
                far = Math.max(far, Math.max(a, b));
            }
            if (!x.next().equals(";")) throw new Fault(2, x.start);
            lines++;
        }
        if (far >= told.places || farBridge >= told.bridges.size()) throw new Fault(6, s.length());
        chains.forEach((a, b) -> told.bridges.get(a)[2] = b);
        shuts.forEach((a, v) -> told.bridges.get(a)[3] = v);
        return lines;
    }

    int fault() { return fault; }

    int rule(int what) {
        if (what < 0 || what > 5) return BAD;
        return new int[] {w.places, w.bridges.size(), w.people.size(), w.law, w.hold, w.minute}[what];
    }

    int bridge(int b, int what) { return !isBridge(b) || what < 0 || what > 3 ? BAD : w.bridges.get(b)[what]; }

    int one(int p, int what) {
        if (!isOne(p) || what < 0 || what > 2) return BAD;
        if (what < 2) return w.people.get(p)[what];
        int bits = 0;
        for (int b = 0; b < w.bridges.size(); b++) if (w.canCross(p, b)) bits |= 1 << b;
        return bits;
    }

    int law(int v) {
        if (v < 0 || v > 2) return BAD;
        int was = w.law;
        w.law = v;
        return was;
    }

    int hold(int v) {
        if (v < 1 || v > 3) return BAD;
        int was = w.hold;
        w.hold = v;
        return was;
    }

    int chain(int b, int c) {
        if (!isBridge(b) || b == c || c != NONE && !isBridge(c)) return BAD;
        int was = w.bridges.get(b)[2];
        w.bridges.get(b)[2] = c;
        return was;
    }

    int shut(int b, int v) {
        if (!isBridge(b) || v < 0 || v > 3) return BAD;
        int was = w.bridges.get(b)[3];
        w.bridges.get(b)[3] = v;
        return was;
    }

    int send(int p, int place, int goal) {
        if (!isOne(p) || !isPlace(place) || !isPlace(goal)) return BAD;
        int was = w.people.get(p)[0];
        w.people.set(p, new int[] {place, goal});
        return was;
    }

    int minute(int moves) {
        if (moves < 0) return BAD;
        String figures = new StringBuilder(Integer.toString(moves, 8)).reverse().toString();
        for (int i = 0; i < figures.length(); i++) {
            int f = figures.charAt(i) - '0';
            if (f > w.bridges.size() || f > 0 && i >= w.people.size()) return BAD;
        }
        if (w.minute == 999) return FULL;
        int stuck = 0;
        for (int p = 0; p < w.people.size(); p++) {
            int f = p < figures.length() ? figures.charAt(p) - '0' : 0;
            if (!w.move(p, f)) stuck |= 1 << p;
        }
        w.endMinute();
        return stuck;
    }

    /** MOVES of the first shortest way: minutes to the goals of every state first, then step by step. */
    private static List<Integer> shortest(World start, int p, int q) {
        Map<String, World> worlds = new HashMap<>();
        Map<String, List<String>> before = new HashMap<>();
        ArrayDeque<String> open = new ArrayDeque<>();
        worlds.put(start.key(), start);
        open.add(start.key());
        ArrayDeque<String> goals = new ArrayDeque<>();
        Map<String, Integer> left = new HashMap<>();
        while (!open.isEmpty()) {
            String k = open.remove();
            World at = worlds.get(k);
            if (at.atGoal(p) && (q < 0 || at.atGoal(q))) {
                left.put(k, 0);
                goals.add(k);
            }
            for (World n : after(at, p, q)) {
                if (n == null) continue;
                before.computeIfAbsent(n.key(), z -> new ArrayList<>()).add(k);
                if (worlds.putIfAbsent(n.key(), n) == null) open.add(n.key());
            }
        }
        while (!goals.isEmpty()) {
            String k = goals.remove();
            for (String b : before.getOrDefault(k, List.of())) {
                if (left.putIfAbsent(b, left.get(k) + 1) == null) goals.add(b);
            }
        }
        if (!left.containsKey(start.key())) return null;
        List<Integer> row = new ArrayList<>();
        for (World at = start; left.get(at.key()) > 0; ) {
            World[] next = after(at, p, q);
            int best = left.get(at.key()) - 1;
            for (int m = 0; m < 64; m++) {
                if (next[m] != null && left.getOrDefault(next[m].key(), 1 << 20) == best) {
                    row.add(m);
                    at = next[m];
                    break;
                }
            }
        }
        return row;
    }

    private static World[] after(World at, int p, int q) {
        World[] all = new World[64];
        for (int m = 0; m < (q < 0 ? 7 : 64); m++) {
            World n = at.copy();
            if (!n.move(p, m % 8) || q >= 0 && !n.move(q, m / 8)) continue;
            n.endMinute();
            n.minute = at.minute;
            all[m] = n;
        }
        return all;
    }

    private static int told(List<Integer> row, int what) {
        if (row == null) return NONE;
        if (what == 0) return row.size();
        return what - 10 < row.size() ? row.get(what - 10) : NONE;
    }

    private static boolean rowAsk(int what) { return what == 0 || what >= 10; }

    int way(int p, int what) { return !isOne(p) || !rowAsk(what) ? BAD : told(shortest(w, p, -1), what); }

    int can(int p) {
        if (!isOne(p)) return BAD;
        int bits = 0;
        for (int x = 0; x < w.places; x++) {
            World v = w.copy();
            v.people.get(p)[1] = x;
            if (shortest(v, p, -1) != null) bits |= 1 << x;
        }
        return bits;
    }

    int both(int p, int q, int what) {
        if (!isOne(p) || !isOne(q) || p == q || !rowAsk(what)) return BAD;
        return told(shortest(w, Math.min(p, q), Math.max(p, q)), what);
    }

    int rings() {
        int bits = 0;
        for (int b = 0; b < w.bridges.size(); b++) {
            int at = b;
            for (int i = 0; i < 6 && at != NONE; i++) {
                at = w.bridges.get(at)[2];
                if (at == b) bits |= 1 << b;
            }
        }
        return bits;
    }

    int guard(int p, int b, int n, int what) {
        if (!isOne(p) || !isBridge(b) || n < 1 || n > 6 || !rowAsk(what)) return BAD;
        List<Integer> best = null;
        int fewest = 7, rows = 1, base = w.bridges.size() + 1;
        for (int i = 0; i < n; i++) rows *= base;
        for (int r = 0; r < rows; r++) {
            List<Integer> row = new ArrayList<>();
            for (int i = 0, rest = r; i < n; i++, rest /= base) row.add(0, rest % base);
            int crosses = 0;
            World v = w.copy();
            boolean holds = true;
            for (int m : row) {
                holds &= v.move(p, m);
                v.endMinute();
                holds &= !v.open(b);
                crosses += m > 0 ? 1 : 0;
                if (!holds) break;
            }
            if (holds && crosses < fewest) {
                fewest = crosses;
                best = row;
            }
        }
        if (best == null) return NONE;
        return what == 0 ? fewest : told(best, what);
    }

    private static boolean wins(World v, int p, int q, int left) {
        if (v.atGoal(p)) return true;
        for (int m = 0; m < 7 && left > 0; m++) if (winsBy(v, p, q, left, m)) return true;
        return false;
    }

    private static boolean winsBy(World v, int p, int q, int left, int m) {
        World a = v.copy();
        if (!a.move(p, m)) return false;
        if (a.atGoal(p)) return true;
        for (int r = 0; r < 7; r++) {
            World b = a.copy();
            if (!b.move(q, r)) continue;
            b.endMinute();
            if (!wins(b, p, q, left - 1)) return false;
        }
        return true;
    }

    int game(int p, int q, int n, int what) {
        if (!isOne(p) || !isOne(q) || p == q || n < 0 || n > 3 || what < 0 || what > 1) return BAD;
        for (int k = 0; k <= n; k++) {
            if (wins(w, p, q, k)) {
                if (what == 0) return k;
                for (int m = 0; m < 7 && k > 0; m++) if (winsBy(w, p, q, k, m)) return m;
                return NONE;
            }
        }
        return NONE;
    }

    int relay(int p, int what) {
        if (!isOne(p) || what < 0 || what > 1) return BAD;
        List<Integer> today = shortest(w, p, -1);
        int best = today == null ? 1 << 20 : today.size(), code = NONE;
        for (int b = 0; b < w.bridges.size(); b++) {
            for (int c = 0; c <= 6; c++) {
                if (c == b || c < 6 && !isBridge(c)) continue;
                World v = w.copy();
                v.bridges.get(b)[2] = c == 6 ? NONE : c;
                List<Integer> row = shortest(v, p, -1);
                if (row != null && row.size() < best) {
                    best = row.size();
                    code = 10 * b + c;
                }
            }
        }
        return code == NONE || what == 0 ? code : best;
    }

    /** Numerator and denominator. */
    private static BigInteger[] luck(World v, int p, int n) {
        if (v.atGoal(p)) return new BigInteger[] {BigInteger.ONE, BigInteger.ONE};
        BigInteger[] sum = {BigInteger.ZERO, BigInteger.ONE};
        if (n == 0) return sum;
        int at = v.people.get(p)[0], ways = 0;
        for (int[] b : v.bridges) if (b[0] == at || b[1] == at) ways++;
        for (int b = 0; b < v.bridges.size(); b++) {
            if (v.bridges.get(b)[0] != at && v.bridges.get(b)[1] != at) continue;
            World a = v.copy();
            a.move(p, b + 1);
            a.endMinute();
            BigInteger[] l = luck(a, p, n - 1);
            sum[0] = sum[0].multiply(l[1]).multiply(BigInteger.valueOf(ways)).add(l[0].multiply(sum[1]));
            sum[1] = sum[1].multiply(l[1]).multiply(BigInteger.valueOf(ways));
            BigInteger g = sum[0].gcd(sum[1]);
            sum[0] = sum[0].divide(g);
            sum[1] = sum[1].divide(g);
        }
        return sum;
    }

    long chance(int p, int n, int what) {
        if (!isOne(p) || n < 0 || n > 5 || what < 0 || what > 1) return BAD;
        return luck(w, p, n)[what].longValueExact();
    }

    int saw(int crossed, int looked, boolean open) {
        if (crossed != NONE && !isBridge(crossed) || !isBridge(looked)) return BAD;
        if (seen.size() == 6) return FULL;
        seen.add(new int[] {crossed, looked, open ? 1 : 0});
        return seen.size();
    }

    int forget(int n) {
        if (n < 0 || n > seen.size()) return BAD;
        int had = seen.size();
        seen = new ArrayList<>(seen.subList(0, n));
        return had;
    }

    /** The rigs that fit what is seen, in their order; -4 stands for none. */
    private List<int[]> fitting(List<int[]> all) {
        int n = w.bridges.size(), rigs = 1;
        for (int i = 0; i < n; i++) rigs *= n;
        List<int[]> fit = new ArrayList<>();
        for (int r = 0; r < rigs; r++) {
            int[] rig = new int[n];
            for (int b = n - 1, rest = r; b >= 0; b--, rest /= n) {
                int c = rest % n; // the others by number, none last
                rig[b] = c == n - 1 ? NONE : c >= b ? c + 1 : c;
            }
            if (fits(rig, all)) fit.add(rig);
        }
        return fit;
    }

    private boolean fits(int[] rig, List<int[]> all) {
        int[] rest = new int[rig.length];
        for (int[] s : all) {
            if (s[0] != NONE && rest[s[0]] > 0) return false;
            for (int b = 0; b < rest.length; b++) rest[b] = Math.max(0, rest[b] - 1);
            if (s[0] != NONE && rig[s[0]] != NONE) rest[rig[s[0]]] = w.hold;
            if ((rest[s[1]] == 0) != (s[2] == 1)) return false;
        }
        return true;
    }

    int rigs(int what) {
        if (what != 0 && (what < 10 || !isBridge(what - 10))) return BAD;
        List<int[]> fit = fitting(seen);
        if (what == 0) return fit.size();
        return fit.isEmpty() ? NONE : fit.get(0)[what - 10];
    }

    int hangs(int b) {
        if (!isBridge(b)) return BAD;
        int bits = 0;
        for (int[] rig : fitting(seen)) bits |= rig[b] == NONE ? 64 : 1 << rig[b];
        return bits;
    }

    int look(int what) {
        if (what < 0 || what > 1) return BAD;
        List<int[]> fit = fitting(seen);
        int best = fit.size(), code = NONE;
        for (int c = 0; c <= 6; c++) {
            if (c < 6 && !isBridge(c)) continue;
            for (int b = 0; b < w.bridges.size(); b++) {
                int[] left = new int[2];
                for (int o = 0; o < 2; o++) {
                    List<int[]> more = new ArrayList<>(seen);
                    more.add(new int[] {c == 6 ? NONE : c, b, o});
                    for (int[] rig : fit) if (fits(rig, more)) left[o]++;
                }
                int worst = Math.max(left[0], left[1]);
                if (worst < best) {
                    best = worst;
                    code = 10 * c + b;
                }
            }
        }
        return code == NONE || what == 0 ? code : best;
    }

    int keep(int k) {
        if (k < 0 || k > 1) return BAD;
        int was = images[k] == null ? 0 : 1;
        images[k] = w.copy();
        return was;
    }

    int back(int k) {
        if (k < 0 || k > 1) return BAD;
        if (images[k] == null) return STATE;
        w = images[k].copy();
        return w.minute;
    }

    int sheet(int k, int lane, int n) {
        if (k < 0 || k > 3 || lane < 0 || lane > 2 || n > 40) return BAD;
        if (n < 0) return -14;
        sheets[k] = lane == 0 ? new byte[n] : lane == 1 ? new short[n] : new int[n];
        return 1;
    }

    int lay(int k, int i, int v) {
        if (k < 0 || k > 3) return BAD;
        try {
            if (sheets[k] == null) throw new NullPointerException();
            if (sheets[k] instanceof byte[] r) r[i] = (byte) v;
            else if (sheets[k] instanceof short[] r) r[i] = (short) v;
            else ((int[]) sheets[k])[i] = v;
            return 1;
        } catch (NullPointerException e) {
            return -11;
        } catch (ArrayIndexOutOfBoundsException e) {
            return -12;
        }
    }

    private int cell(int k, int lane, int i) {
        if (lane == 0) return ((byte[]) sheets[k])[i];
        if (lane == 1) return ((short[]) sheets[k])[i];
        return ((int[]) sheets[k])[i];
    }

    int read(int k, int lane, int f, int n) {
        if (k < 0 || k > 3 || lane < 0 || lane > 2 || n < 0 || n > 20) return BAD;
        World was = w.copy();
        int found = 0, went = 0;
        try {
            for (int i = 0; i < n; i++) {
                if (minute(cell(k, lane, f + i)) != 0) {
                    w = was;
                    return -20 - i;
                }
                went++;
            }
        } catch (NullPointerException e) {
            found = 1;
        } catch (ArrayIndexOutOfBoundsException e) {
            found = 2;
        } catch (ClassCastException e) {
            found = 3;
        }
        torn = found;
        return went;
    }

    int torn() { return torn; }

    int count(int what) {
        int n = 0;
        switch (what) {
            case 0: for (int b = 0; b < w.bridges.size(); b++) if (w.open(b)) n++; return n;
            case 1: for (int p = 0; p < w.people.size(); p++) if (w.atGoal(p)) n++; return n;
            case 2: return seen.size();
            case 3: for (World i : images) if (i != null) n++; return n;
            case 4: return tape.length();
            case 5: return sheets[0] == null ? NONE : java.lang.reflect.Array.getLength(sheets[0]);
            default: return BAD;
        }
    }

    @Override
    public String toString() {
        StringBuilder s = new StringBuilder(w.key());
        for (int[] b : w.bridges) s.append(' ').append(Arrays.toString(b));
        for (int[] p : w.people) s.append(' ').append(Arrays.toString(p));
        return s.append(" law ").append(w.law).append(" hold ").append(w.hold).toString();
    }
}
