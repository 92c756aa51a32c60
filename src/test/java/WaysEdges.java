/** Ways, holding, hindering, chance: promises 15 to 22 and what block 2 says of them. */
final class WaysEdges {
    private static final int NONE = Run.NONE, BAD = Run.BAD;
    private static final String SIX = Run.times(6, "bridge 0 1;");
    private static final String THREE_ONES = "one 0 1;one 0 1;one 0 1;";
    /** Four places in a row, three bridges, nothing hangs. */
    private static final String ROW = "places 4;bridge 0 1;bridge 1 2;bridge 2 3;";

    private WaysEdges() { }

    // ---- 15 way

    @Says(promise = 15, value = "A WAY of a ONE: MINUTES (what 0); 10 and i: the MOVE of MINUTE i (0 on).")
    private static void way() {
        Run.told(ROW + "one 0 3;one 3 0;one 2 2;").is("way(0, 0)", 3).moves("way(0, #)", 1, 2, 3, NONE, NONE).is("way(1, 0)", 3)
            .moves("way(1, #)", 3, 2, 1, NONE).is("way(2, 0)", 0).is("way(2, 10)", NONE);
        for (int rest = 0; rest <= 3; rest++) {
            Run r = Run.told(SIX + "one 0 1;").does("shut(0, 3)", "shut(1, 3)", "shut(2, 3)", "shut(3, 3)", "shut(4, 3)", "shut(5, " + rest + ")");
            r.is("way(0, 0)", rest + 1);
            for (int i = 0; i < rest; i++) r.is("way(0, " + (10 + i) + ")", 0);
            r.is("way(0, " + (10 + rest) + ")", rest == 3 ? 1 : 6).is("way(0, " + (11 + rest) + ")", NONE);
        }
    }

    @Says(promise = 0, value = "to his GOAL, with the fewest MINUTES, of several the first by MOVES.")
    private static void firstByMoves() {
        Run.told(SIX + "one 0 1;").is("way(0, 10)", 1).does("shut(0, 1)").is("way(0, 10)", 2).does("shut(1, 1)", "shut(2, 1)", "shut(3, 1)", "shut(4, 1)")
            .is("way(0, 0)", 1).is("way(0, 10)", 6).does("shut(5, 1)").is("way(0, 0)", 2).moves("way(0, #)", 0, 1, NONE);
        Run.told("places 3;bridge 0 1;bridge 1 2;shut 1 2;one 0 2;").is("way(0, 0)", 3).moves("way(0, #)", 0, 1, 2, NONE);
        Run.told("places 3;bridge 1 2;bridge 0 1;bridge 0 1;chain 1 0;one 0 2;").is("way(0, 0)", 2).moves("way(0, #)", 3, 1, NONE);
        Run.told("places 3;hold 1;bridge 1 2;bridge 0 1;chain 1 0;one 0 2;").is("way(0, 0)", 3).moves("way(0, #)", 2, 0, 1, NONE);
    }

    @Says(promise = 0, value = "A WAY of a ONE: MOVES (CROSSES that he can make, or staying), MINUTE by MINUTE, all others staying")
    private static void wayByLaws() {
        String text = "places 3;bridge 0 1;bridge 1 2;chain 0 1;one 0 2;one 1 0;one 1 0;";
        Run.told("hold 3;" + text).is("way(0, 0)", 5).moves("way(0, #)", 1, 0, 0, 0, 2, NONE);
        Run.told("hold 3;law 1;" + text).is("way(0, 0)", 2).does("shut(1, 3)").is("way(0, 0)", 2).moves("way(0, #)", 1, 2, NONE);
        Run.told("hold 3;law 2;" + text).is("way(0, 0)", 5).does("chain(0, NONE)").is("way(0, 0)", 5).does("law(0)").is("way(0, 0)", 2);
        Run.told("hold 1;" + text).is("way(0, 0)", 3).row("one(#, 0)", 0, 1, 1).is("rule(5)", 0).is("bridge(1, 3)", 0);
        Run.told("law 1;places 4;bridge 0 1;bridge 2 3;chain 0 1;shut 1 3;one 2 3;one 0 1;").is("way(0, 0)", 4).is("both(0, 1, 0)", 2);
    }

    @Says(promise = 0, value = "the soonest way for one, for two at once, by all states")
    private static void byAllStates() {
        for (int b = 0; b < 6; b++) {
            StringBuilder text = new StringBuilder("places 4;one 0 1;one 0 1;");
            for (int c = 0; c < 6; c++) text.append(c == b ? "bridge 0 1;" : "bridge 2 3;");
            for (int rest = 1; rest <= 3; rest++) {
                Run.told(text.toString()).does("shut(" + b + ", " + rest + ")").is("way(0, 0)", rest + 1).is("both(0, 1, 0)", rest + 1).is("both(0, 1, " + (10 + rest) + ")", 9 * (b + 1)).is("can(0)", 3);
            }
        }
        Run.told("places 4;hold 2;bridge 0 1;bridge 1 2;" + Run.times(4, "bridge 2 3;") + "chain 0 5;shut 5 2;one 0 2;").is("way(0, 0)", 2);
    }

    @Says(promise = 15, value = "BAD; NONE: there is none, not so many.")
    private static void wayRefused() {
        Run.told(ROW + "one 0 3;one 0 0;").are(BAD, "way(2, 0)", "way(-1, 0)", "way(3, 10)", "way(MIN, 0)", "way(MAX, 0)", "way(0, -1)", "way(0, MIN)", "way(0, NONE)")
            .row("way(1, #)", 0, BAD, BAD, BAD, BAD, BAD, BAD, BAD, BAD, BAD, NONE, NONE).are(NONE, "way(0, 13)", "way(0, 1000)", "way(0, MAX)", "way(1, MAX)");
        Run.told("places 3;bridge 0 1;one 0 2;").are(NONE, "way(0, 0)", "way(0, 10)", "way(0, MAX)").are(BAD, "way(0, 9)", "way(1, 0)");
        Run.told("one 0 1;").are(NONE, "way(0, 0)", "way(0, 10)").does("send(0, 1, 1)").is("way(0, 0)", 0);
        new Run().are(BAD, "way(0, 0)", "way(0, 10)");
    }

    @Says(promise = 0, value = "The MOVE of one alone likewise (0 to 6).")
    private static void lastMove() {
        String text = "places 3;hold 3;" + Run.times(5, "bridge 1 2;") + "bridge 0 1;chain 5 0;one 0 1;one 2 2;";
        Run.told(text).moves("way(0, #)", 6, NONE).moves("guard(0, 0, 3, #)", 6, 0, 0, NONE).is("game(0, 1, 1, 1)", 6).does("shut(5, 1)").moves("way(0, #)", 0, 6, NONE).is("game(0, 1, 2, 1)", 0);
        for (int b = 0; b < 6; b++) {
            StringBuilder one = new StringBuilder("places 4;one 0 1;one 3 3;");
            for (int c = 0; c < 6; c++) one.append(c == b ? "bridge 0 1;" : "bridge 2 3;");
            Run.told(one.toString()).moves("way(0, #)", b + 1, NONE).is("game(0, 1, 1, 1)", b + 1);
        }
    }

    // ---- 16 can

    @Says(promise = 16, value = "PLACES to which a ONE, alone, can come (bits; his own, too). BAD.")
    private static void can() {
        Run.told("places 5;one 0 1;one 4 1;").row("can(#)", 1, 16, BAD);
        Run.told("places 5;bridge 0 1;bridge 1 2;bridge 2 3;bridge 3 4;chain 0 1;chain 1 0;one 0 0;one 2 2;one 4 4;").row("can(#)", 31, 31, 31, BAD);
        Run.told("places 5;bridge 0 4;bridge 1 3;shut 0 3;shut 1 3;one 0 0;one 3 3;one 2 2;").row("can(#)", 17, 10, 4, BAD);
        for (int law = 0; law < 3; law++) Run.told("hold 3;law " + law + ";" + ROW + "chain 0 1;chain 1 2;chain 2 0;one 0 3;").row("can(#)", 15, BAD);
        Run.told("one 0 1;").are(BAD, "can(1)", "can(-1)", "can(3)", "can(MIN)", "can(MAX)", "can(NONE)");
        new Run().is("can(0)", BAD);
    }

    // ---- 17 both

    @Says(promise = 17, value = "A WAY of two at once: MINUTES (what 0); 10 and i: MOVES of both in MINUTE i.")
    private static void both() {
        Run.told(ROW + "one 0 3;one 3 0;one 3 1;").is("both(0, 1, 0)", 3).moves("both(0, 1, #)", 25, 18, 11, NONE).moves("both(1, 0, #)", 25, 18, 11, NONE)
            .is("both(0, 2, 0)", 3).moves("both(2, 0, #)", 1, 26, 19, NONE).is("both(1, 2, 0)", 3).moves("both(1, 2, #)", 3, 26, 17, NONE);
        Run.told(SIX + "shut 0 1;shut 1 1;shut 2 1;shut 3 1;shut 4 1;" + THREE_ONES).is("both(1, 2, 0)", 1).moves("both(1, 2, #)", 54, NONE);
        Run.told("bridge 0 1;one 0 0;one 0 1;one 1 1;").is("both(0, 2, 0)", 0).is("both(0, 2, 10)", NONE).moves("both(0, 1, #)", 8, NONE).moves("both(1, 2, #)", 1, NONE);
    }

    @Says(promise = 0, value = "in each MINUTE the earlier one first, till both are at their GOALS at its end; the first by these.")
    private static void bothInOrder() {
        Run.told("places 3;hold 3;bridge 0 1;bridge 2 1;chain 0 1;one 0 1;one 2 1;").is("both(0, 1, 0)", 2).moves("both(0, 1, #)", 16, 1, NONE);
        Run.told("places 3;hold 3;bridge 0 1;bridge 2 1;chain 0 1;one 2 1;one 0 1;").is("both(0, 1, 0)", 1).moves("both(0, 1, #)", 10, NONE);
        Run.told("bridge 0 1;bridge 0 1;" + THREE_ONES).moves("both(0, 1, #)", 9, NONE).does("shut(0, 1)").moves("both(0, 1, #)", 18, NONE);
        Run.told("bridge 0 1;bridge 0 1;chain 0 1;" + THREE_ONES).moves("both(0, 1, #)", 9, NONE).does("chain(0, NONE)", "law(1)").moves("both(0, 1, #)", 10, NONE)
            .does("law(2)").moves("both(0, 1, #)", 9, NONE);
        Run.told("places 3;bridge 0 1;bridge 1 2;shut 1 1;one 0 2;one 2 1;").is("both(0, 1, 0)", 2).moves("both(0, 1, #)", 1, 18, NONE);
    }

    @Says(promise = 0, value = "Of two at once: MOVES of both (8 times that of the later one and that of the earlier one, by numbers)")
    private static void movesOfBoth() {
        for (int b = 0; b < 6; b++) {
            for (int c = 0; c < 6; c++) {
                if (b == c) continue;
                StringBuilder text = new StringBuilder("places 5;one 0 1;one 4 4;one 2 3;");
                for (int d = 0; d < 6; d++) text.append(d == b ? "bridge 0 1;" : d == c ? "bridge 2 3;" : "bridge 1 3;");
                Run.told(text.toString()).moves("both(0, 2, #)", 8 * (c + 1) + b + 1, NONE).moves("both(2, 0, #)", 8 * (c + 1) + b + 1, NONE).moves("both(1, 2, #)", 8 * (c + 1), NONE)
                    .moves("both(0, 1, #)", b + 1, NONE);
            }
        }
    }

    @Says(promise = 17, value = "BAD (also alike); NONE.")
    private static void bothRefused() {
        Run.told(ROW + THREE_ONES).are(BAD, "both(0, 0, 0)", "both(1, 1, 0)", "both(2, 2, 10)", "both(0, 3, 0)", "both(3, 0, 0)", "both(-1, 0, 0)", "both(0, -1, 0)",
            "both(3, 4, 0)", "both(0, 1, 1)", "both(0, 1, 9)", "both(0, 1, -1)", "both(MIN, 0, 0)", "both(0, MAX, 0)", "both(0, 1, MIN)", "both(-1, -1, 0)")
            .are(NONE, "both(0, 1, 11)", "both(0, 1, MAX)").is("both(0, 1, 0)", 1);
        Run.told("places 3;bridge 0 1;one 0 1;one 0 2;").are(NONE, "both(0, 1, 0)", "both(1, 0, 10)", "both(0, 1, MAX)").is("both(0, 2, 0)", BAD);
        Run.told("one 0 1;").are(BAD, "both(0, 0, 0)", "both(0, 1, 0)");
        new Run().are(BAD, "both(0, 1, 0)", "both(0, 0, 0)");
    }

    // ---- 18 rings

    @Says(promise = 18, value = "BRIDGES that HANG on one another round and round (bits).")
    private static void rings() {
        new Run().is("rings()", 0);
        Run.told("bridge 0 1;").is("rings()", 0);
        Run.told("bridge 0 1;bridge 0 1;chain 0 1;").is("rings()", 0).does("chain(1, 0)").is("rings()", 3).does("chain(0, NONE)").is("rings()", 0);
        Run r = Run.told(SIX + "chain 0 1;chain 1 2;chain 2 3;chain 3 4;chain 4 5;").is("rings()", 0);
        r.is("chain(5, 0)", NONE).is("rings()", 63).is("chain(5, 1)", 0).is("rings()", 62).is("chain(5, 4)", 1).is("rings()", 48).is("chain(5, NONE)", 4).is("rings()", 0);
        Run.told(SIX + "chain 0 1;chain 1 0;chain 2 3;chain 3 4;chain 4 2;chain 5 0;").is("rings()", 31).does("law(2)").is("rings()", 31);
    }

    // ---- 19 guard

    @Says(promise = 0, value = "GUARDED: a ONE, alone, makes MOVES (staying, or CROSSES that he can make) by which a BRIDGE is not OPEN behind each of n MINUTES.")
    private static void guarded() {
        for (int rest = 0; rest <= 3; rest++) {
            Run r = Run.told("places 3;bridge 0 1;bridge 0 1;one 2 0;").does("shut(1, " + rest + ")");
            for (int n = 1; n <= 6; n++) r.is("guard(0, 1, " + n + ", 0)", n < rest ? 0 : NONE);
        }
        for (int hold = 1; hold <= 3; hold++) {
            Run r = Run.told("hold " + hold + ";bridge 0 1;bridge 0 1;chain 0 1;one 0 0;");
            for (int n = 1; n <= 6; n++) r.is("guard(0, 1, " + n + ", 0)", (n + hold - 1) / hold).is("guard(0, 0, " + n + ", 0)", NONE);
        }
        Run.told("hold 1;law 1;bridge 0 1;bridge 0 1;one 0 0;").is("guard(0, 0, 1, 0)", 1).is("guard(0, 0, 2, 0)", NONE);
        Run.told("hold 1;law 2;bridge 0 1;bridge 0 1;one 0 0;").is("guard(0, 0, 6, 0)", 6).is("guard(0, 0, 6, 10)", 2);
        Run.told("hold 1;bridge 0 1;bridge 0 1;chain 0 1;shut 0 1;one 0 0;").are(NONE, "guard(0, 1, 1, 0)", "guard(0, 1, 6, 0)").is("guard(0, 0, 1, 0)", NONE);
    }

    @Says(promise = 19, value = "the fewest CROSSES (what 0); 10 and i: the MOVE of MINUTE i of the first such row by MOVES.")
    private static void guardRow() {
        Run.told("hold 2;bridge 0 1;bridge 0 1;chain 0 1;one 0 0;").moves("guard(0, 1, 6, #)", 1, 0, 1, 0, 1, 0, NONE).moves("guard(0, 1, 5, #)", 1, 0, 1, 0, 1, NONE)
            .moves("guard(0, 1, 1, #)", 1, NONE).does("shut(1, 3)").moves("guard(0, 1, 4, #)", 0, 0, 1, 0, NONE).is("guard(0, 1, 2, 0)", 0)
            .moves("guard(0, 1, 2, #)", 0, 0, NONE);
        Run.told("hold 3;" + SIX + "chain 1 5;chain 2 5;chain 4 5;one 0 0;").moves("guard(0, 5, 6, #)", 2, 0, 0, 2, 0, 0, NONE).does("shut(1, 1)")
            .moves("guard(0, 5, 2, #)", 3, 0, NONE).does("shut(2, 1)").is("guard(0, 5, 1, 10)", 5);
        Run.told("hold 1;places 3;bridge 0 1;bridge 1 2;bridge 2 0;chain 0 2;one 1 1;").is("guard(0, 2, 6, 0)", 6).moves("guard(0, 2, 3, #)", 1, 1, 1, NONE);
    }

    @Says(promise = 19, value = "GUARDED for n MINUTES (1 to 6)")
    private static void guardBounds() {
        Run.told("hold 1;bridge 0 1;bridge 0 1;chain 0 1;one 0 0;").are(BAD, "guard(0, 1, 0, 0)", "guard(0, 1, 7, 0)", "guard(0, 1, -1, 0)", "guard(0, 1, MIN, 0)",
            "guard(0, 1, MAX, 0)", "guard(0, 0, 0, 0)", "guard(0, 0, 7, 10)").is("guard(0, 1, 1, 0)", 1).is("guard(0, 1, 6, 0)", 6);
    }

    @Says(promise = 19, value = "BAD; NONE: it can not be, not so many.")
    private static void guardRefused() {
        Run.told("hold 1;bridge 0 1;bridge 0 1;chain 0 1;one 0 0;").are(BAD, "guard(1, 1, 1, 0)", "guard(-1, 1, 1, 0)", "guard(0, 2, 1, 0)", "guard(0, -1, 1, 0)",
            "guard(0, NONE, 1, 0)", "guard(0, 1, 1, 1)", "guard(0, 1, 1, 9)", "guard(0, 1, 1, -1)", "guard(0, 1, 1, MIN)", "guard(MIN, 1, 1, 0)", "guard(MAX, 1, 1, 0)",
            "guard(0, MIN, 1, 0)", "guard(0, MAX, 1, 0)", "guard(0, 6, 1, 0)")
            .are(NONE, "guard(0, 1, 1, 11)", "guard(0, 1, 6, 16)", "guard(0, 1, 3, 13)", "guard(0, 1, 1, MAX)", "guard(0, 0, 1, 0)", "guard(0, 0, 1, 10)", "guard(0, 0, 6, MAX)");
        new Run().is("guard(0, 0, 1, 0)", BAD);
        Run.told("bridge 0 1;").is("guard(0, 0, 1, 0)", BAD);
        Run.told("one 0 1;").is("guard(0, 0, 1, 0)", BAD);
    }

    // ---- 20 game

    @Says(promise = 0, value = "the ONE wins, if he is at his GOAL behind his own move (or at first)")
    private static void wins() {
        Run.told("bridge 0 1;one 1 1;one 0 0;").row("game(0, 1, #, 0)", 0, 0, 0, 0, BAD).row("game(0, 1, #, 1)", NONE, NONE, NONE, NONE, BAD);
        Run.told("hold 3;bridge 0 1;bridge 0 1;chain 1 0;chain 0 1;one 0 1;one 0 0;").row("game(0, 1, #, 0)", NONE, 1, 1, 1).row("game(0, 1, #, 1)", NONE, 1, 1, 1);
        Run.told(ROW + "one 0 3;one 3 3;").row("game(0, 1, #, 0)", NONE, NONE, NONE, 3, BAD).row("game(0, 1, #, 1)", NONE, NONE, NONE, 1, BAD);
        Run.told(ROW + "bridge 2 3;bridge 3 2;chain 3 2;chain 4 3;one 0 3;one 3 3;").row("game(0, 1, #, 0)", NONE, NONE, NONE, 3);
        Run.told(ROW + "bridge 0 1;chain 3 2;hold 3;one 1 3;one 0 0;").row("game(0, 1, #, 0)", NONE, NONE, NONE, NONE).does("send(1, 3, 3)").is("game(0, 1, 2, 0)", 2)
            .is("game(0, 1, 2, 1)", 2);
    }

    @Says(promise = 0, value = "in each first the ONE moves, then another one, who hinders, each as he likes (staying, or a CROSS that he can make; others stay)")
    private static void hinders() {
        String text = "places 3;bridge 0 1;bridge 1 2;bridge 0 1;chain 2 1;one 0 2;one 0 0;one 0 0;";
        Run.told("hold 1;" + text).row("game(0, 1, #, 0)", NONE, NONE, NONE, NONE).does("shut(2, 1)").is("game(0, 1, 3, 0)", 2).is("game(0, 1, 3, 1)", 1)
            .does("shut(2, 0)", "send(1, 2, 2)").is("game(0, 1, 3, 0)", 2).is("game(0, 2, 3, 0)", NONE);
        Run.told("places 3;hold 1;bridge 0 1;bridge 1 2;bridge 2 1;shut 1 1;shut 2 1;chain 1 2;chain 2 1;one 1 2;one 0 0;").is("game(0, 1, 3, 0)", 2).is("game(0, 1, 3, 1)", 0);
        Run.told("places 3;bridge 0 1;bridge 0 1;bridge 1 2;chain 0 2;one 0 2;one 2 2;").is("game(0, 1, 3, 0)", 2).is("game(0, 1, 2, 1)", 2);
        Run.told("law 1;bridge 0 1;bridge 0 1;chain 1 0;shut 0 3;shut 1 3;one 0 1;one 1 1;").row("game(0, 1, #, 0)", NONE, NONE, NONE, NONE);
        Run.told("law 1;places 3;bridge 0 1;bridge 0 2;chain 0 1;shut 1 3;one 0 2;one 1 1;").row("game(0, 1, #, 0)", NONE, NONE, NONE, NONE).does("shut(1, 2)")
            .row("game(0, 1, #, 0)", NONE, NONE, NONE, 3).is("game(0, 1, 3, 1)", 0);
    }

    @Says(promise = 20, value = "A GAME of a ONE against another one of n MINUTES (0 to 3)")
    private static void gameBounds() {
        Run.told("bridge 0 1;shut 0 2;one 0 1;one 0 0;").row("game(0, 1, #, 0)", NONE, NONE, NONE, 3, BAD).row("game(0, 1, #, 1)", NONE, NONE, NONE, 0, BAD)
            .are(BAD, "game(0, 1, -1, 0)", "game(0, 1, MIN, 0)", "game(0, 1, MAX, 0)", "game(1, 0, -1, 0)", "game(1, 0, 4, 0)").row("game(1, 0, #, 0)", 0, 0, 0, 0);
        Run.told("bridge 0 1;shut 0 3;one 0 1;one 0 0;").row("game(0, 1, #, 0)", NONE, NONE, NONE, NONE, BAD);
    }

    @Says(promise = 20, value = "the fewest MINUTES in which he can win for sure (what 0), the first MOVE by which he does in so many (1).")
    private static void soonestWin() {
        Run.told(SIX + "one 0 1;one 1 1;").is("game(0, 1, 3, 0)", 1).is("game(0, 1, 3, 1)", 1).does("shut(0, 1)").is("game(0, 1, 3, 0)", 1).is("game(0, 1, 3, 1)", 2).does("shut(1, 3)", "shut(2, 3)",
            "shut(3, 3)", "shut(4, 3)", "shut(5, 3)").is("game(0, 1, 3, 0)", 2).is("game(0, 1, 3, 1)", 0).does("shut(5, 0)").is("game(0, 1, 3, 0)", 1).is("game(0, 1, 3, 1)", 6);
        Run.told("places 4;bridge 0 2;bridge 0 3;bridge 3 1;bridge 2 3;one 0 1;one 1 1;").is("game(0, 1, 3, 0)", 2).is("game(0, 1, 3, 1)", 2).is("game(0, 1, 2, 1)", 2).is("game(0, 1, 1, 1)", NONE)
            .does("send(1, 2, 2)").is("game(0, 1, 3, 0)", 2);
    }

    @Says(promise = 20, value = "BAD (also alike); NONE: he can not; (1) he has won.")
    private static void gameRefused() {
        Run.told("bridge 0 1;one 0 1;one 0 0;").are(BAD, "game(0, 0, 1, 0)", "game(1, 1, 1, 0)", "game(1, 1, 0, 1)", "game(0, 2, 1, 0)", "game(2, 0, 1, 0)", "game(-1, 0, 1, 0)",
            "game(0, -1, 1, 0)", "game(0, 1, 1, 2)", "game(0, 1, 1, -1)", "game(0, 1, 1, 10)", "game(0, 1, 1, MIN)", "game(0, 1, 1, MAX)", "game(MIN, 1, 1, 0)", "game(0, MAX, 1, 0)",
            "game(2, 2, 1, 0)").are(NONE, "game(0, 1, 0, 0)", "game(0, 1, 0, 1)", "game(1, 0, 0, 1)", "game(1, 0, 3, 1)").is("game(1, 0, 0, 0)", 0).is("game(0, 1, 1, 1)", 1);
        new Run().is("game(0, 1, 1, 0)", BAD);
        Run.told("one 0 0;").are(BAD, "game(0, 1, 0, 0)", "game(0, 0, 0, 0)");
    }

    // ---- 21 relay

    @Says(promise = 21, value = "the BRIDGE on which another one HANGS then, or none, 10 times it and that one (6: none), of several the least (what 0), MINUTES then (1).")
    private static void relay() {
        Run.told("places 3;bridge 1 2;bridge 0 1;chain 1 0;one 0 2;").row("relay(0, #)", 16, 2, BAD).is("way(0, 0)", 4).row("bridge(#, 2)", NONE, 0);
        Run.told("places 3;bridge 0 1;bridge 1 2;chain 0 1;one 0 2;").row("relay(0, #)", 6, 2, BAD).row("bridge(#, 2)", 1, NONE);
        String six = Run.times(4, "bridge 2 3;");
        Run.told("places 4;" + six + "bridge 1 2;bridge 0 1;chain 5 4;one 0 2;").row("relay(0, #)", 50, 2, BAD).is("bridge(5, 2)", 4);
        Run.told("places 4;bridge 0 1;bridge 1 2;" + six + "chain 0 1;one 0 2;").row("relay(0, #)", 2, 2, BAD);
        Run.told("law 1;places 4;" + six + "bridge 1 2;bridge 0 1;shut 4 3;one 0 2;").row("relay(0, #)", 54, 2, BAD);
        Run.told("law 1;places 3;bridge 0 1;bridge 0 1;bridge 1 2;shut 2 3;one 0 2;").row("relay(0, #)", 2, 2, BAD).does("shut(0, 3)").row("relay(0, #)", 12, 2, BAD);
    }

    @Says(promise = 21, value = "sooner than now (or at all)")
    private static void relaySooner() {
        Run.told(ROW + "one 0 3;one 0 0;one 3 2;").row("relay(#, 0)", NONE, NONE, NONE, BAD).row("relay(#, 1)", NONE, NONE, NONE, BAD);
        Run.told(ROW + "chain 0 1;one 0 1;one 0 0;one 0 3;").row("relay(#, 0)", NONE, NONE, 6, BAD).row("relay(#, 1)", NONE, NONE, 3, BAD);
        Run.told("law 2;places 3;bridge 0 1;bridge 1 2;chain 0 1;one 0 2;").row("relay(0, #)", NONE, NONE);
        Run.told("hold 1;places 3;bridge 0 1;bridge 1 2;chain 0 1;one 0 2;").is("way(0, 0)", 3).row("relay(0, #)", 6, 2);
    }

    @Says(promise = 21, value = "BAD; NONE: none does.")
    private static void relayRefused() {
        Run.told("places 3;bridge 0 1;bridge 1 2;chain 0 1;one 0 2;").are(BAD, "relay(1, 0)", "relay(-1, 0)", "relay(0, 2)", "relay(0, -1)", "relay(0, 10)", "relay(MIN, 0)", "relay(MAX, 0)",
            "relay(0, MIN)", "relay(0, MAX)", "relay(1, 1)").is("relay(0, 0)", 6);
        Run.told("places 3;bridge 0 1;one 0 2;one 0 1;").row("relay(0, #)", NONE, NONE, BAD).row("relay(1, #)", NONE, NONE, BAD);
        Run.told("one 0 1;").row("relay(0, #)", NONE, NONE, BAD);
        new Run().is("relay(0, 0)", BAD);
    }

    // ---- 22 chance

    private static void odds(Run r, int n, long good, long all) {
        r.is("chance(0, " + n + ", 0)", good).is("chance(0, " + n + ", 1)", all);
    }

    @Says(promise = 0, value = "Fractions are in lowest terms, the denominator above 0 (0 is 0 by 1).")
    private static void lowestTerms() {
        Run r = Run.told("places 3;bridge 0 1;bridge 0 1;bridge 0 2;bridge 0 2;one 0 1;");
        odds(r, 0, 0, 1);
        odds(r, 1, 1, 2);
        odds(r, 2, 1, 2);
        odds(r, 3, 3, 4);
        odds(r, 5, 7, 8);
        odds(Run.told("places 3;bridge 0 1;one 0 2;"), 5, 0, 1);
        odds(Run.told("bridge 0 1;one 0 1;"), 1, 1, 1);
    }

    @Says(promise = 0, value = "BY CHANCE: a ONE, alone, would in each MINUTE CROSS one of the BRIDGES at his PLACE (OPEN or not), each as likely (none there: he stays).")
    private static void byChance() {
        Run six = Run.told("places 3;bridge 0 1;bridge 0 2;bridge 2 0;bridge 0 2;bridge 2 0;bridge 0 2;one 0 1;");
        long[][] want = {{0, 1}, {1, 6}, {1, 6}, {11, 36}, {11, 36}, {91, 216}};
        for (int n = 0; n <= 5; n++) odds(six, n, want[n][0], want[n][1]);
        six.does("shut(0, 2)");
        odds(six, 1, 0, 1);
        odds(six, 3, 31, 216);
        Run two = Run.told("bridge 0 1;bridge 0 1;shut 0 3;shut 1 1;one 0 1;");
        odds(two, 1, 0, 1);
        odds(two, 2, 1, 2);
        odds(two, 3, 3, 4);
        odds(two, 4, 1, 1);
        odds(Run.told("places 3;bridge 1 2;one 0 1;"), 5, 0, 1);
        odds(Run.told("places 3;bridge 1 2;one 0 0;"), 5, 1, 1);
    }

    @Says(promise = 22, value = "that a ONE is at his GOAL behind n MINUTES (0 to 5), or was before: 0, 1. BAD.")
    private static void chance() {
        Run.told("bridge 0 1;one 0 1;one 1 1;one 0 0;").row("chance(0, #, 0)", 0, 1, 1, 1, 1, 1, BAD).row("chance(0, #, 1)", 1, 1, 1, 1, 1, 1, BAD)
            .row("chance(1, #, 0)", 1, 1, 1, 1, 1, 1, BAD).row("chance(2, #, 1)", 1, 1, 1, 1, 1, 1, BAD)
            .are(BAD, "chance(0, -1, 0)", "chance(0, 6, 1)", "chance(0, MIN, 0)", "chance(0, MAX, 0)", "chance(3, 0, 0)", "chance(-1, 0, 0)", "chance(MIN, 0, 0)", "chance(MAX, 0, 0)",
                "chance(0, 1, 2)", "chance(0, 1, -1)", "chance(0, 1, 10)", "chance(0, 1, MIN)", "chance(0, 1, MAX)", "chance(3, 6, 2)");
        new Run().is("chance(0, 0, 0)", BAD);
        odds(Run.told("places 5;bridge 0 1;bridge 0 2;bridge 0 3;bridge 0 4;bridge 4 1;one 0 1;"), 5, 181, 256);
    }
}
