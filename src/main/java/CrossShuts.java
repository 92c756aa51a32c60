import java.util.Arrays;

/** Bridges that shut one another when they are crossed, and the people who cross them. */
public final class CrossShuts {
    public static final int BAD = -1, STATE = -2, FULL = -3, NONE = -4;

    private static final int MOST_PLACES = 5;
    private static final int MOST_BRIDGES = 6;
    private static final int MOST_PEOPLE = 3;
    private static final int MOST_SEEN = 6;
    private static final int MOST_IMAGES = 2;
    private static final int LAST_MINUTE = 999;
    /** Stands for "none" among bridges: the document's own 6, one above the last. */
    private static final int NO_BRIDGE = 6;
    private static final int NOBODY = -1;
    private static final int NOWHERE = -1;
    private static final int NO_LIMIT = 1000000;

    private final Town now;
    /** What is not yet sure to stand: a text half read, minutes half gone. */
    private final Town draft;
    private final Town[] images;
    private final boolean[] kept;
    private final Teller teller;
    private final Ways ways;
    private final Plays plays;
    private final Watch watch;
    private final Sheets sheets;
    private int tear;

    public CrossShuts() {
        now = new Town();
        draft = new Town();
        images = new Town[MOST_IMAGES];
        for (int k = 0; k < MOST_IMAGES; k++) {
            images[k] = new Town();
        }
        kept = new boolean[MOST_IMAGES];
        teller = new Teller();
        ways = new Ways();
        plays = new Plays();
        watch = new Watch();
        sheets = new Sheets();
        tear = 0;
    }

    // ---- the text, what there is

    public int feed(long v) {
        return teller.takeEight(v);
    }

    public int end(int n) {
        return teller.cutTo(n);
    }

    public int text() {
        int lines = teller.tell(draft);
        if (lines >= 0) {
            now.copyFrom(draft);
            watch.seen = 0;
            kept[0] = false;
            kept[1] = false;
        }
        return lines;
    }

    public int fault() {
        return teller.fault;
    }

    public int rule(int what) {
        switch (what) {
            case 0: return now.places;
            case 1: return now.bridges;
            case 2: return now.people;
            case 3: return now.law;
            case 4: return now.hold;
            case 5: return now.minutes;
            default: return BAD;
        }
    }

    public int bridge(int b, int what) {
        if (!now.isBridge(b)) {
            return BAD;
        }
        switch (what) {
            case 0: return now.first[b];
            case 1: return now.second[b];
            case 2: return orNone(now.hang[b]);
            case 3: return Town.restOf(now.rests, b);
            default: return BAD;
        }
    }

    public int one(int p, int what) {
        if (!now.isOne(p)) {
            return BAD;
        }
        switch (what) {
            case 0: return now.place[p];
            case 1: return now.goal[p];
            case 2: return now.crossable(p);
            default: return BAD;
        }
    }

    // ---- what is changed

    public int law(int v) {
        if (v < 0 || v > 2) {
            return BAD;
        }
        int was = now.law;
        now.law = v;
        return was;
    }

    public int hold(int v) {
        if (v < 1 || v > 3) {
            return BAD;
        }
        int was = now.hold;
        now.hold = v;
        return was;
    }

    public int chain(int b, int c) {
        if (!now.isBridge(b) || c == b || c != NONE && !now.isBridge(c)) {
            return BAD;
        }
        int was = now.hang[b];
        now.hang[b] = c == NONE ? NO_BRIDGE : c;
        return orNone(was);
    }

    public int shut(int b, int v) {
        if (!now.isBridge(b) || v < 0 || v > 3) {
            return BAD;
        }
        int was = Town.restOf(now.rests, b);
        now.rests = Town.withRest(now.rests, b, v);
        return was;
    }

    public int send(int p, int place, int goal) {
        if (!now.isOne(p) || !now.isPlace(place) || !now.isPlace(goal)) {
            return BAD;
        }
        int was = now.place[p];
        now.place[p] = place;
        now.goal[p] = goal;
        return was;
    }

    public int minute(int moves) {
        return now.passMinute(moves);
    }

    // ---- ways

    public int way(int p, int what) {
        if (!now.isOne(p) || !asksRow(what)) {
            return BAD;
        }
        ways.seek(now, p, NOBODY, NO_LIMIT);
        return ways.answer(what);
    }

    public int can(int p) {
        if (!now.isOne(p)) {
            return BAD;
        }
        return ways.placesInReach(now, p);
    }

    public int both(int p, int q, int what) {
        if (!now.isOne(p) || !now.isOne(q) || p == q || !asksRow(what)) {
            return BAD;
        }
        ways.seek(now, Math.min(p, q), Math.max(p, q), NO_LIMIT);
        return ways.answer(what);
    }

    public int rings() {
        int bits = 0;
        for (int b = 0; b < now.bridges; b++) {
            if (now.hangsRound(b)) {
                bits |= 1 << b;
            }
        }
        return bits;
    }

    // ---- holding, hindering

    public int guard(int p, int b, int n, int what) {
        if (!now.isOne(p) || !now.isBridge(b) || n < 1 || n > 6 || !asksRow(what)) {
            return BAD;
        }
        return plays.guarding(now, p, b, n, what);
    }

    public int game(int p, int q, int n, int what) {
        if (!now.isOne(p) || !now.isOne(q) || p == q || n < 0 || n > 3 || !asksPair(what)) {
            return BAD;
        }
        return plays.winning(now, p, q, n, what);
    }

    public int relay(int p, int what) {
        if (!now.isOne(p) || !asksPair(what)) {
            return BAD;
        }
        return ways.soonestChain(now, p, what);
    }

    public long chance(int p, int n, int what) {
        if (!now.isOne(p) || n < 0 || n > 5 || !asksPair(what)) {
            return BAD;
        }
        return plays.luck(now, p, n, what);
    }

    // ---- seen

    public int saw(int crossed, int looked, boolean open) {
        if (crossed != NONE && !now.isBridge(crossed) || !now.isBridge(looked)) {
            return BAD;
        }
        return watch.add(crossed == NONE ? NO_BRIDGE : crossed, looked, open);
    }

    public int forget(int n) {
        if (n < 0 || n > watch.seen) {
            return BAD;
        }
        int was = watch.seen;
        watch.seen = n;
        return was;
    }

    public int rigs(int what) {
        if (what != 0 && (what < 10 || !now.isBridge(what - 10))) {
            return BAD;
        }
        watch.sift(now, false);
        if (what == 0) {
            return watch.fitting;
        }
        return watch.fitting == 0 ? NONE : orNone(watch.firstHanging(what - 10));
    }

    public int hangs(int b) {
        if (!now.isBridge(b)) {
            return BAD;
        }
        watch.sift(now, false);
        return watch.possible[b];
    }

    public int look(int what) {
        if (!asksPair(what)) {
            return BAD;
        }
        watch.sift(now, true);
        return watch.bestLook(what);
    }

    // ---- images, sheets

    public int keep(int k) {
        if (k < 0 || k >= MOST_IMAGES) {
            return BAD;
        }
        int was = kept[k] ? 1 : 0;
        images[k].copyFrom(now);
        kept[k] = true;
        return was;
    }

    public int back(int k) {
        if (k < 0 || k >= MOST_IMAGES) {
            return BAD;
        }
        if (!kept[k]) {
            return STATE;
        }
        now.copyFrom(images[k]);
        return now.minutes;
    }

    public int sheet(int k, int lane, int n) {
        if (!Sheets.isSheet(k) || !Sheets.isLane(lane) || n > Sheets.MOST_CELLS) {
            return BAD;
        }
        if (n < 0) {
            return -10 - Sheets.SIZE;
        }
        sheets.make(k, lane, n);
        return 1;
    }

    public int lay(int k, int i, int v) {
        if (!Sheets.isSheet(k)) {
            return BAD;
        }
        int found = sheets.faultAt(k, i);
        if (found != 0) {
            return -10 - found;
        }
        sheets.put(k, i, v);
        return 1;
    }

    public int read(int k, int lane, int f, int n) {
        if (!Sheets.isSheet(k) || !Sheets.isLane(lane) || n < 0 || n > 20) {
            return BAD;
        }
        draft.copyFrom(now);
        int found = 0;
        int went = 0;
        for (int i = 0; i < n && found == 0; i++) {
            found = sheets.faultAs(k, lane, f + i);
            if (found == 0) {
                if (draft.passMinute(sheets.cell(k, f + i)) != 0) {
                    return -20 - i;
                }
                went++;
            }
        }
        now.copyFrom(draft);
        tear = found;
        return went;
    }

    public int torn() {
        return tear;
    }

    public int count(int what) {
        switch (what) {
            case 0: return now.openBridges();
            case 1: return now.peopleAtGoals();
            case 2: return watch.seen;
            case 3: return (kept[0] ? 1 : 0) + (kept[1] ? 1 : 0);
            case 4: return teller.length;
            case 5: return sheets.cellsOf(0);
            default: return BAD;
        }
    }

    private static int orNone(int bridge) {
        return bridge == NO_BRIDGE ? NONE : bridge;
    }

    private static boolean asksRow(int what) {
        return what == 0 || what >= 10;
    }

    private static boolean asksPair(int what) {
        return what == 0 || what == 1;
    }

    /**
     * Bridges, people, LAW, HOLD and THE MINUTE. The RESTS are packed into one int, three bits a
     * bridge, so that the searches carry a state about without making objects.
     */
    private static final class Town {
        private static final int REST_BITS = 3;
        private static final int REST_MASK = 7;
        /** The lowest bit of each bridge's REST. */
        private static final int LOWEST_BITS = 0b001_001_001_001_001_001;

        int places;
        int bridges;
        int people;
        int law;
        int hold;
        int minutes;
        int rests;
        final int[] first = new int[MOST_BRIDGES];
        final int[] second = new int[MOST_BRIDGES];
        final int[] hang = new int[MOST_BRIDGES];
        final int[] place = new int[MOST_PEOPLE];
        final int[] goal = new int[MOST_PEOPLE];

        Town() {
            clear();
        }

        void clear() {
            places = 2;
            bridges = 0;
            people = 0;
            law = 0;
            hold = 2;
            minutes = 0;
            rests = 0;
            Arrays.fill(hang, NO_BRIDGE);
        }

        void copyFrom(Town other) {
            places = other.places;
            bridges = other.bridges;
            people = other.people;
            law = other.law;
            hold = other.hold;
            minutes = other.minutes;
            rests = other.rests;
            System.arraycopy(other.first, 0, first, 0, MOST_BRIDGES);
            System.arraycopy(other.second, 0, second, 0, MOST_BRIDGES);
            System.arraycopy(other.hang, 0, hang, 0, MOST_BRIDGES);
            System.arraycopy(other.place, 0, place, 0, MOST_PEOPLE);
            System.arraycopy(other.goal, 0, goal, 0, MOST_PEOPLE);
        }

        boolean isPlace(int x) {
            return x >= 0 && x < places;
        }

        boolean isBridge(int b) {
            return b >= 0 && b < bridges;
        }

        boolean isOne(int p) {
            return p >= 0 && p < people;
        }

        static int restOf(int held, int b) {
            return held >> REST_BITS * b & REST_MASK;
        }

        static int withRest(int held, int b, int rest) {
            return held & ~(REST_MASK << REST_BITS * b) | rest << REST_BITS * b;
        }

        static boolean isOpen(int held, int b) {
            return (held & REST_MASK << REST_BITS * b) == 0;
        }

        static int behindMinute(int held) {
            return held - ((held | held >> 1 | held >> 2) & LOWEST_BITS);
        }

        /** Shut for the rest of this minute too: one more than HOLD, which the minute's end takes off. */
        static int shutFor(int held, int b, int hold) {
            if (b == NO_BRIDGE) {
                return held;
            }
            return held & ~(REST_MASK << REST_BITS * b) | hold + 1 << REST_BITS * b;
        }

        boolean touches(int b, int where) {
            return first[b] == where || second[b] == where;
        }

        boolean canMove(int held, int where, int move) {
            return move == 0 || move > 0 && move <= bridges && touches(move - 1, where) && isOpen(held, move - 1);
        }

        int placeAfter(int where, int move) {
            if (move == 0) {
                return where;
            }
            return first[move - 1] == where ? second[move - 1] : first[move - 1];
        }

        /** The RESTS, still within the minute, behind a move that can be made. */
        int restsAfter(int held, int move) {
            if (move == 0) {
                return held;
            }
            int b = move - 1;
            if (law == 1) {
                int itself = shutFor(held, b, hold);
                return hang[b] == NO_BRIDGE ? itself : withRest(itself, hang[b], 0);
            }
            if (law == 2) {
                int below = b == 0 ? held : shutFor(held, b - 1, hold);
                return b == bridges - 1 ? below : shutFor(below, b + 1, hold);
            }
            return shutFor(held, hang[b], hold);
        }

        int crossable(int p) {
            int bits = 0;
            for (int b = 0; b < bridges; b++) {
                if (canMove(rests, place[p], b + 1)) {
                    bits |= 1 << b;
                }
            }
            return bits;
        }

        int passMinute(int moves) {
            if (!areMoves(moves)) {
                return BAD;
            }
            if (minutes >= LAST_MINUTE) {
                return FULL;
            }
            int stuck = 0;
            for (int p = 0; p < people; p++) {
                int move = moves >> 3 * p & 7;
                if (canMove(rests, place[p], move)) {
                    rests = restsAfter(rests, move);
                    place[p] = placeAfter(place[p], move);
                } else {
                    stuck |= 1 << p;
                }
            }
            rests = behindMinute(rests);
            minutes++;
            return stuck;
        }

        private boolean areMoves(int moves) {
            if (moves < 0 || moves >> 3 * people != 0) {
                return false;
            }
            for (int p = 0; p < people; p++) {
                if ((moves >> 3 * p & 7) > bridges) {
                    return false;
                }
            }
            return true;
        }

        boolean hangsRound(int b) {
            int at = b;
            for (int step = 0; step < bridges; step++) {
                at = hang[at];
                if (at == b) {
                    return true;
                }
                if (!isBridge(at)) {
                    return false;
                }
            }
            return false;
        }

        int openBridges() {
            int open = 0;
            for (int b = 0; b < bridges; b++) {
                if (isOpen(rests, b)) {
                    open++;
                }
            }
            return open;
        }

        int peopleAtGoals() {
            int there = 0;
            for (int p = 0; p < people; p++) {
                if (place[p] == goal[p]) {
                    there++;
                }
            }
            return there;
        }
    }

    /** THE TAPE, and the reading of it into a town. */
    private static final class Teller {
        private static final int MOST_BYTES = 320;

        private static final int END = 0, NAME = 1, NUMBER = 2, SEMICOLON = 3, NO_TOKEN = 4;

        private static final int PLACES = 0, HOLD = 1, LAW = 2, BRIDGE = 3, CHAIN = 4, SHUT = 5, ONE = 6;
        private static final int WORDS = 7;
        private static final int[] LEAST_FIRST = {2, 1, 0, 0, 0, 0, 0};
        private static final int[] MOST_FIRST = {5, 3, 2, 4, 5, 5, 4};
        private static final int[] LEAST_SECOND = {0, 0, 0, 0, 0, 1, 0};
        private static final int[] MOST_SECOND = {0, 0, 0, 4, 5, 3, 4};

        private final byte[] bytes = new byte[MOST_BYTES];
        int length;
        int fault;
        private int faultPlace;
        private Town town;
        /** Where the next token is looked for. */
        private int at;
        private int kind;
        private int start;
        private int value;
        private int toldOnce;
        private int topPlace;
        private int topBridge;

        int takeEight(long v) {
            if (length + 8 > MOST_BYTES) {
                return FULL;
            }
            for (int i = 0; i < 8; i++) {
                bytes[length + i] = (byte) (v >> 56 - 8 * i);
            }
            length += 8;
            return length;
        }

        int cutTo(int n) {
            if (n < 0 || n > length) {
                return BAD;
            }
            int was = length;
            length = n;
            return was;
        }

        int tell(Town draft) {
            town = draft;
            town.clear();
            at = 0;
            fault = 0;
            toldOnce = 0;
            topPlace = -1;
            topBridge = -1;
            int lines = 0;
            for (int turn = 0; turn <= MOST_BYTES; turn++) {
                readToken();
                if (kind == END || !takeLine()) {
                    break;
                }
                lines++;
            }
            if (fault == 0 && (topPlace >= town.places || topBridge >= town.bridges)) {
                blame(6, length);
            }
            length = 0;
            return fault == 0 ? lines : -10 - faultPlace;
        }

        private boolean takeLine() {
            if (!isKind(NAME)) {
                return false;
            }
            int word = wordHere();
            if (word < 0) {
                return blame(2, start);
            }
            if (word <= LAW && (toldOnce & 1 << word) != 0) {
                return blame(4, start);
            }
            if (word == BRIDGE && town.bridges == MOST_BRIDGES || word == ONE && town.people == MOST_PEOPLE) {
                return blame(5, start);
            }
            if (!takeNumber(LEAST_FIRST[word], MOST_FIRST[word])) {
                return false;
            }
            int a = value;
            if (isTaken(word, a)) {
                return blame(4, start);
            }
            int b = 0;
            if (word >= BRIDGE) {
                if (!takeNumber(LEAST_SECOND[word], MOST_SECOND[word])) {
                    return false;
                }
                b = value;
                if ((word == BRIDGE || word == CHAIN) && a == b) {
                    return blame(4, start);
                }
            }
            readToken();
            if (!isKind(SEMICOLON)) {
                return false;
            }
            tellLine(word, a, b);
            return true;
        }

        private boolean takeNumber(int least, int most) {
            readToken();
            if (!isKind(NUMBER)) {
                return false;
            }
            return value >= least && value <= most || blame(3, start);
        }

        private boolean isKind(int wanted) {
            if (kind == NO_TOKEN) {
                return blame(1, start);
            }
            return kind == wanted || blame(2, start);
        }

        /** A bridge on which one hangs already, or that is shut already. */
        private boolean isTaken(int word, int b) {
            if (word == CHAIN) {
                return town.hang[b] != NO_BRIDGE;
            }
            return word == SHUT && !Town.isOpen(town.rests, b);
        }

        private void tellLine(int word, int a, int b) {
            toldOnce |= 1 << word;
            switch (word) {
                case PLACES:
                    town.places = a;
                    break;
                case HOLD:
                    town.hold = a;
                    break;
                case LAW:
                    town.law = a;
                    break;
                case BRIDGE:
                    town.first[town.bridges] = a;
                    town.second[town.bridges] = b;
                    town.bridges++;
                    topPlace = Math.max(topPlace, Math.max(a, b));
                    break;
                case CHAIN:
                    town.hang[a] = b;
                    topBridge = Math.max(topBridge, Math.max(a, b));
                    break;
                case SHUT:
                    town.rests = Town.withRest(town.rests, a, b);
                    topBridge = Math.max(topBridge, a);
                    break;
                default:
                    town.place[town.people] = a;
                    town.goal[town.people] = b;
                    town.people++;
                    topPlace = Math.max(topPlace, Math.max(a, b));
                    break;
            }
        }

        /** Answers false, so that a reader can blame and leave in one line. */
        private boolean blame(int which, int where) {
            fault = which;
            faultPlace = where;
            return false;
        }

        private void readToken() {
            while (at < length && bytes[at] == ' ') {
                at++;
            }
            start = at;
            if (at >= length) {
                kind = END;
            } else if (isLetter(bytes[at])) {
                kind = NAME;
                while (at < length && isLetter(bytes[at])) {
                    at++;
                }
            } else if (isFigure(bytes[at])) {
                readNumber();
            } else if (bytes[at] == ';') {
                kind = SEMICOLON;
                at++;
            } else {
                kind = NO_TOKEN;
            }
        }

        private void readNumber() {
            value = 0;
            while (at < length && isFigure(bytes[at])) {
                value = Math.min(1000, 10 * value + bytes[at] - '0');
                at++;
            }
            kind = at - start <= 2 ? NUMBER : NO_TOKEN;
        }

        private static boolean isLetter(byte c) {
            return c >= 'a' && c <= 'z';
        }

        private static boolean isFigure(byte c) {
            return c >= '0' && c <= '9';
        }

        private int wordHere() {
            for (int word = 0; word < WORDS; word++) {
                if (spells(nameOf(word))) {
                    return word;
                }
            }
            return -1;
        }

        private boolean spells(String name) {
            if (name.length() != at - start) {
                return false;
            }
            for (int i = 0; i < name.length(); i++) {
                if (name.charAt(i) != bytes[start + i]) {
                    return false;
                }
            }
            return true;
        }

        private static String nameOf(int word) {
            switch (word) {
                case PLACES: return "places";
                case HOLD: return "hold";
                case LAW: return "law";
                case BRIDGE: return "bridge";
                case CHAIN: return "chain";
                case SHUT: return "shut";
                default: return "one";
            }
        }
    }

    /**
     * Ways for one or for two at once, over all states, breadth first. States wait in the order in
     * which they were found and moves are tried by number, so the first row found to a state is the
     * first by MOVES among the shortest.
     */
    private static final class Ways {
        private static final int RESTS_BITS = 18, RESTS_MASK = (1 << RESTS_BITS) - 1;
        private static final int EARLY_SHIFT = 18, LATE_SHIFT = 21, MOVES_SHIFT = 24, FROM_SHIFT = 30;
        /** Behind a minute a REST is 3 at most: two bits a bridge name it. */
        private static final int SQUEEZED_BITS = 12;
        private static final int LONGS_A_PLACE = (1 << SQUEEZED_BITS) / 64;
        private static final int MOST_STATES = MOST_PLACES * MOST_PLACES << SQUEEZED_BITS;
        private static final int CAN_NOT = -1;

        private final long[] known = new long[MOST_PLACES * MOST_PLACES * LONGS_A_PLACE];
        /** A state, the MOVES that led to it and the index of the state that they led from. */
        private long[] queue = new long[256];
        private int tail;
        /** The RESTS behind each move of the early one, ahead of the late one's. */
        private final int[] between = new int[MOST_BRIDGES + 1];
        private Town town;
        private boolean forTwo;
        private int earlyGoal;
        private int lateGoal;
        private int found;
        private int minutes;

        /** A way for one, or, if there is a late one, for two at once, of limit minutes at most. */
        void seek(Town asked, int early, int late, int limit) {
            town = asked;
            forTwo = late != NOBODY;
            earlyGoal = town.goal[early];
            lateGoal = forTwo ? town.goal[late] : 0;
            search(town.place[early], forTwo ? town.place[late] : 0, limit);
        }

        int answer(int what) {
            if (found < 0) {
                return NONE;
            }
            if (what == 0) {
                return minutes;
            }
            int i = what - 10;
            return i >= 0 && i < minutes ? movesOf(i) : NONE;
        }

        int placesInReach(Town asked, int p) {
            town = asked;
            forTwo = false;
            earlyGoal = NOWHERE;
            lateGoal = 0;
            search(town.place[p], 0, NO_LIMIT);
            int bits = 0;
            for (int i = 0; i < tail; i++) {
                bits |= 1 << placeIn(queue[i], EARLY_SHIFT);
            }
            return bits;
        }

        int soonestChain(Town asked, int p, int what) {
            seek(asked, p, NOBODY, NO_LIMIT);
            if (minutes == 0 && found >= 0) {
                return NONE;
            }
            int best = found < 0 ? NO_LIMIT : minutes;
            int code = NONE;
            for (int b = 0; b < asked.bridges; b++) {
                int was = asked.hang[b];
                for (int c = 0; c <= NO_BRIDGE; c++) {
                    if (c == b || c == was || c != NO_BRIDGE && !asked.isBridge(c)) {
                        continue;
                    }
                    asked.hang[b] = c;
                    seek(asked, p, NOBODY, best - 1);
                    if (found >= 0) {
                        best = minutes;
                        code = 10 * b + c;
                    }
                }
                asked.hang[b] = was;
            }
            return code == NONE || what == 0 ? code : best;
        }

        private void search(int early, int late, int limit) {
            Arrays.fill(known, 0, forTwo ? known.length : MOST_PLACES * LONGS_A_PLACE, 0L);
            tail = 0;
            found = -1;
            minutes = 0;
            isNew(town.rests, early, late, 0, 0);
            if (atGoals(early, late)) {
                found = 0;
                return;
            }
            int levelEnd = tail;
            for (int head = 0; head < tail && head < MOST_STATES; head++) {
                if (head == levelEnd) {
                    minutes++;
                    levelEnd = tail;
                }
                if (minutes >= limit) {
                    return;
                }
                if (spread(head)) {
                    minutes++;
                    found = tail - 1;
                    return;
                }
            }
        }

        /** Finds what is one minute behind a state; whether the goals are there. */
        private boolean spread(int head) {
            int held = (int) queue[head] & RESTS_MASK;
            int early = placeIn(queue[head], EARLY_SHIFT);
            int late = placeIn(queue[head], LATE_SHIFT);
            for (int move = 0; move <= town.bridges; move++) {
                between[move] = town.canMove(held, early, move) ? town.restsAfter(held, move) : CAN_NOT;
            }
            int lateMoves = forTwo ? town.bridges : 0;
            for (int second = 0; second <= lateMoves; second++) {
                for (int first = 0; first <= town.bridges; first++) {
                    if (between[first] == CAN_NOT || !town.canMove(between[first], late, second)) {
                        continue;
                    }
                    int behind = Town.behindMinute(town.restsAfter(between[first], second));
                    int x = town.placeAfter(early, first);
                    int y = town.placeAfter(late, second);
                    if (isNew(behind, x, y, 8 * second + first, head) && atGoals(x, y)) {
                        return true;
                    }
                }
            }
            return false;
        }

        private boolean atGoals(int early, int late) {
            return early == earlyGoal && (!forTwo || late == lateGoal);
        }

        /** Puts a state that is not yet known behind the others. */
        private boolean isNew(int held, int early, int late, int moves, int from) {
            int index = early + MOST_PLACES * late << SQUEEZED_BITS | squeezed(held);
            int cell = index >> 6;
            long bit = 1L << (index & 63);
            if (cell < 0 || cell >= known.length || (known[cell] & bit) != 0) {
                return false;
            }
            known[cell] |= bit;
            if (tail >= queue.length) {
                queue = Arrays.copyOf(queue, 2 * queue.length);
            }
            queue[tail] = held | (long) early << EARLY_SHIFT | (long) late << LATE_SHIFT
                    | (long) moves << MOVES_SHIFT | (long) from << FROM_SHIFT;
            tail++;
            return true;
        }

        private static int squeezed(int held) {
            return held & 3 | held >> 1 & 3 << 2 | held >> 2 & 3 << 4
                    | held >> 3 & 3 << 6 | held >> 4 & 3 << 8 | held >> 5 & 3 << 10;
        }

        private static int placeIn(long state, int shift) {
            return (int) (state >> shift) & 7;
        }

        private int movesOf(int i) {
            int at = found;
            for (int later = minutes - 1; later > i; later--) {
                at = (int) (queue[at] >> FROM_SHIFT);
            }
            return (int) (queue[at] >> MOVES_SHIFT) & 63;
        }
    }

    /** Holding a bridge shut, the game of one against another, and ways by chance. */
    private static final class Plays {
        private static final int MOST_ROW = 6;
        /** Each number of bridges at a place divides it, so a minute's chances are whole sixtieths. */
        private static final int SHARES = 60;

        private Town town;
        private final int[] row = new int[MOST_ROW];
        private final int[] bestRow = new int[MOST_ROW];
        private int rowLength;
        private int fewest;
        private int guarded;
        private int goal;

        int guarding(Town asked, int p, int b, int n, int what) {
            town = asked;
            guarded = b;
            rowLength = Math.min(n, MOST_ROW);
            fewest = rowLength + 1;
            holdFrom(0, town.place[p], town.rests, 0);
            if (fewest > rowLength) {
                return NONE;
            }
            if (what == 0) {
                return fewest;
            }
            int i = what - 10;
            return i >= 0 && i < rowLength ? bestRow[i] : NONE;
        }

        /** Rows are tried in their order, so a later one counts only with fewer crosses. */
        private void holdFrom(int i, int where, int held, int crosses) {
            if (crosses >= fewest) {
                return;
            }
            if (i >= rowLength) {
                fewest = crosses;
                System.arraycopy(row, 0, bestRow, 0, MOST_ROW);
                return;
            }
            for (int move = 0; move <= town.bridges; move++) {
                if (town.canMove(held, where, move)) {
                    int behind = Town.behindMinute(town.restsAfter(held, move));
                    if (!Town.isOpen(behind, guarded)) {
                        row[i] = move;
                        holdFrom(i + 1, town.placeAfter(where, move), behind, crosses + (move == 0 ? 0 : 1));
                    }
                }
            }
        }

        int winning(Town asked, int p, int q, int n, int what) {
            town = asked;
            goal = town.goal[p];
            if (town.place[p] == goal) {
                return what == 0 ? 0 : NONE;
            }
            for (int left = 1; left <= n; left++) {
                int move = winningMove(left, town.place[p], town.place[q], town.rests);
                if (move >= 0) {
                    return what == 0 ? left : move;
                }
            }
            return NONE;
        }

        private int winningMove(int left, int where, int other, int held) {
            for (int move = 0; move <= town.bridges && left > 0; move++) {
                if (town.canMove(held, where, move)) {
                    int then = town.placeAfter(where, move);
                    if (then == goal || left > 1 && !canHinder(left, then, other, town.restsAfter(held, move))) {
                        return move;
                    }
                }
            }
            return NONE;
        }

        private boolean canHinder(int left, int where, int other, int held) {
            for (int reply = 0; reply <= town.bridges; reply++) {
                if (town.canMove(held, other, reply)) {
                    int behind = Town.behindMinute(town.restsAfter(held, reply));
                    if (winningMove(left - 1, where, town.placeAfter(other, reply), behind) < 0) {
                        return true;
                    }
                }
            }
            return false;
        }

        long luck(Town asked, int p, int n, int what) {
            town = asked;
            goal = town.goal[p];
            long all = sharesBehind(n);
            long good = luckyShares(n, town.place[p], town.rests);
            long common = commonDivisor(all, good);
            if (common == 0) {
                return 0;
            }
            return (what == 0 ? good : all) / common;
        }

        private long luckyShares(int left, int where, int held) {
            if (where == goal) {
                return sharesBehind(left);
            }
            int here = bridgesAt(where);
            if (left <= 0 || here == 0) {
                return 0;
            }
            long sum = 0;
            for (int b = 0; b < town.bridges; b++) {
                if (town.touches(b, where)) {
                    int move = Town.isOpen(held, b) ? b + 1 : 0;
                    int behind = Town.behindMinute(town.restsAfter(held, move));
                    sum += luckyShares(left - 1, town.placeAfter(where, move), behind);
                }
            }
            return SHARES / here * sum;
        }

        private int bridgesAt(int where) {
            int here = 0;
            for (int b = 0; b < town.bridges; b++) {
                if (town.touches(b, where)) {
                    here++;
                }
            }
            return here;
        }

        private static long sharesBehind(int left) {
            long all = 1;
            for (int i = 0; i < left; i++) {
                all *= SHARES;
            }
            return all;
        }

        private static long commonDivisor(long a, long b) {
            long x = a;
            long y = b;
            for (int step = 0; step < 100 && y != 0; step++) {
                long rest = x % y;
                x = y;
                y = rest;
            }
            return x;
        }
    }

    /**
     * What was SEEN, and the RIGS that fit it. Only bridges that were crossed tell of what hangs on
     * them; the others are left untold, and each such row counts for all the rigs that it leaves.
     */
    private static final class Watch {
        private static final int UNTOLD = 7;
        private static final int NONE_BIT = 64;
        /** Above every rig: six figures to the base 7. */
        private static final int NO_RIG = 7 * 7 * 7 * 7 * 7 * 7;

        int seen;
        int fitting;
        /** Of each bridge: which can hang on it. */
        final int[] possible = new int[MOST_BRIDGES];
        private final int[] crossed = new int[MOST_SEEN];
        private final int[] looked = new int[MOST_SEEN];
        private final boolean[] wasOpen = new boolean[MOST_SEEN];
        private final int[] hang = new int[MOST_BRIDGES];
        /** By 6 times the bridge crossed and the one looked at: rigs left if it is open, if not. */
        private final int[] leftOpen = new int[(MOST_BRIDGES + 1) * MOST_BRIDGES];
        private final int[] leftShut = new int[(MOST_BRIDGES + 1) * MOST_BRIDGES];
        private int bridges;
        private int hold;
        private boolean ahead;
        private int firstRig;

        int add(int crossing, int looking, boolean open) {
            if (seen >= MOST_SEEN) {
                return FULL;
            }
            crossed[seen] = crossing;
            looked[seen] = looking;
            wasOpen[seen] = open;
            seen++;
            return seen;
        }

        /** Goes through all rigs that fit; ahead: also through what the next minute leaves of them. */
        void sift(Town town, boolean lookAhead) {
            bridges = town.bridges;
            hold = town.hold;
            ahead = lookAhead;
            fitting = 0;
            firstRig = NO_RIG;
            Arrays.fill(possible, 0);
            Arrays.fill(hang, UNTOLD);
            Arrays.fill(leftOpen, 0);
            Arrays.fill(leftShut, 0);
            follow(0, 0);
        }

        private void follow(int i, int held) {
            if (i >= seen || i >= MOST_SEEN) {
                fits(held);
                return;
            }
            int b = crossed[i];
            if (b == NO_BRIDGE) {
                behind(i, held);
            } else if (Town.isOpen(held, b)) {
                if (hang[b] != UNTOLD) {
                    behind(i, Town.shutFor(held, hang[b], hold));
                } else {
                    for (int c = 0; c <= NO_BRIDGE; c++) {
                        if (mayHang(b, c)) {
                            hang[b] = c;
                            behind(i, Town.shutFor(held, c, hold));
                        }
                    }
                    hang[b] = UNTOLD;
                }
            }
        }

        private void behind(int i, int held) {
            int then = Town.behindMinute(held);
            if (Town.isOpen(then, looked[i]) == wasOpen[i]) {
                follow(i + 1, then);
            }
        }

        private boolean mayHang(int b, int c) {
            return c == NO_BRIDGE || c != b && c < bridges;
        }

        private void fits(int held) {
            int rigs = 1;
            int rig = 0;
            for (int b = 0; b < bridges; b++) {
                rig = 7 * rig + (hang[b] == UNTOLD ? leastOn(b) : hang[b]);
                if (hang[b] == UNTOLD) {
                    rigs *= bridges;
                    possible[b] |= (1 << bridges) - 1 & ~(1 << b) | NONE_BIT;
                } else {
                    possible[b] |= 1 << hang[b];
                }
            }
            fitting += rigs;
            firstRig = Math.min(firstRig, rig);
            if (ahead) {
                tellNext(held, rigs);
            }
        }

        private int leastOn(int b) {
            if (b > 0) {
                return 0;
            }
            return bridges > 1 ? 1 : NO_BRIDGE;
        }

        int firstHanging(int b) {
            int rig = firstRig;
            for (int later = bridges - 1; later > b; later--) {
                rig /= 7;
            }
            return rig % 7;
        }

        private void tellNext(int held, int rigs) {
            tally(NO_BRIDGE, held, rigs);
            for (int b = 0; b < bridges; b++) {
                if (!Town.isOpen(held, b)) {
                    continue;
                }
                if (hang[b] != UNTOLD) {
                    tally(b, Town.shutFor(held, hang[b], hold), rigs);
                    continue;
                }
                for (int c = 0; c <= NO_BRIDGE; c++) {
                    if (mayHang(b, c)) {
                        tally(b, Town.shutFor(held, c, hold), rigs / bridges);
                    }
                }
            }
        }

        private void tally(int crossing, int held, int rigs) {
            int then = Town.behindMinute(held);
            for (int b = 0; b < bridges; b++) {
                int index = MOST_BRIDGES * crossing + b;
                if (Town.isOpen(then, b)) {
                    leftOpen[index] += rigs;
                } else {
                    leftShut[index] += rigs;
                }
            }
        }

        int bestLook(int what) {
            int best = fitting;
            int code = NONE;
            for (int crossing = 0; crossing <= NO_BRIDGE; crossing++) {
                if (crossing >= bridges && crossing != NO_BRIDGE) {
                    continue;
                }
                for (int b = 0; b < bridges; b++) {
                    int index = MOST_BRIDGES * crossing + b;
                    int worst = Math.max(leftOpen[index], leftShut[index]);
                    if (worst < best) {
                        best = worst;
                        code = 10 * crossing + b;
                    }
                }
            }
            return code == NONE || what == 0 ? code : best;
        }
    }

    /** Rows of cells of three widths; what a machine would throw over them is told as a FAULT. */
    private static final class Sheets {
        private static final int MOST_SHEETS = 4;
        static final int MOST_CELLS = 40;
        private static final int NULL = 1, INDEX = 2, CAST = 3;
        static final int SIZE = 4;
        private static final int NOTHING = -1;

        private final int[] cells = new int[MOST_SHEETS * MOST_CELLS];
        private final int[] lanes = new int[MOST_SHEETS];
        private final int[] sizes = new int[MOST_SHEETS];

        Sheets() {
            Arrays.fill(lanes, NOTHING);
        }

        static boolean isSheet(int k) {
            return k >= 0 && k < MOST_SHEETS;
        }

        static boolean isLane(int lane) {
            return lane >= 0 && lane <= 2;
        }

        void make(int k, int lane, int n) {
            lanes[k] = lane;
            sizes[k] = n;
            Arrays.fill(cells, k * MOST_CELLS, (k + 1) * MOST_CELLS, 0);
        }

        int faultAt(int k, int i) {
            return faultAs(k, lanes[k], i);
        }

        int faultAs(int k, int lane, int i) {
            if (lanes[k] == NOTHING) {
                return NULL;
            }
            if (lanes[k] != lane) {
                return CAST;
            }
            return i < 0 || i >= sizes[k] ? INDEX : 0;
        }

        void put(int k, int i, int v) {
            int kept = v;
            if (lanes[k] == 0) {
                kept = (byte) v;
            } else if (lanes[k] == 1) {
                kept = (short) v;
            }
            cells[k * MOST_CELLS + i] = kept;
        }

        int cell(int k, int i) {
            return cells[k * MOST_CELLS + i];
        }

        int cellsOf(int k) {
            return lanes[k] == NOTHING ? NONE : sizes[k];
        }
    }
}
