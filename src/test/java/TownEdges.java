/** What there is and how it is changed, minute by minute: promises 6 to 14 and what block 2 says of a MINUTE. */
final class TownEdges {
    private static final int FULL = Run.FULL, NONE = Run.NONE, BAD = Run.BAD, STATE = Run.STATE;
    private static final String SIX = Run.times(6, "bridge 0 1;");
    private static final String THREE_ONES = "one 0 1;one 0 1;one 0 1;";

    private TownEdges() { }

    // ---- terms

    @Says(promise = 0, value = "An object is used for at most 512 calls after it has been made")
    private static void the512thCall() {
        String[] last = {"rule(0)", "way(0, 0)", "both(0, 1, 0)", "minute(1)", "keep(1)", "rigs(0)", "look(0)", "feed(0)", "text()", "sheet(0, 2, 40)",
            "saw(0, 1, true)", "chance(0, 1, 0)", "torn()"};
        long[] want = {2, 1, 1, 0, 0, 4, 1, 8, 0, 1, 1, 1, 0};
        for (int i = 0; i < last.length; i++) {
            Run r = Run.told("bridge 0 1;bridge 0 1;one 0 1;one 0 1;");
            while (r.left() > 1) r.is("count(1)", 0);
            r.is(last[i], want[i]);
        }
    }

    @Says(promise = 0, value = "BAD -1 (a number is not as told, there is no such PLACE, BRIDGE, ONE, IMAGE, SHEET), STATE -2 (as told), FULL -3, NONE -4 (there is none)")
    private static void answers() {
        if (CrossShuts.BAD != -1 || CrossShuts.STATE != -2 || CrossShuts.FULL != -3 || CrossShuts.NONE != -4) Run.wrong("a constant");
        Run.told("bridge 0 1;one 0 1;").are(BAD, "law(3)", "send(0, 2, 0)", "bridge(1, 0)", "one(1, 0)", "keep(2)", "sheet(4, 0, 0)");
    }

    @Says(promise = 0, value = "the first that fits")
    private static void firstThatFits() {
        new Run().are(BAD, "back(2)", "back(-1)", "sheet(4, 0, -1)", "sheet(-1, 0, -1)", "sheet(0, 3, -1)", "sheet(0, -1, -1)", "lay(4, 0, 0)", "lay(-1, -1, 0)",
            "read(4, 0, 0, 1)", "read(0, 3, 0, 1)", "read(0, 0, -1, 21)").is("torn()", 0);
        Run.late("bridge 0 1;one 0 1;").are(BAD, "minute(2)", "minute(8)", "minute(-1)").is("minute(0)", FULL).is("minute(1)", FULL);
        Run seen = Run.told("bridge 0 1;bridge 0 1;");
        for (int i = 0; i < 6; i++) seen.ask("saw(NONE, 0, false)");
        seen.are(BAD, "saw(2, 0, true)", "saw(-1, 0, true)", "saw(0, 2, true)", "saw(0, NONE, true)").is("saw(0, 0, true)", FULL)
            .are(BAD, "rigs(12)", "rigs(9)", "hangs(2)", "look(2)", "look(-1)").are(NONE, "rigs(11)", "look(0)");
        Run.told("places 3;bridge 0 1;one 0 2;one 0 2;").are(BAD, "way(0, 1)", "way(0, 9)", "way(2, 10)", "both(0, 1, 1)", "both(0, 0, 0)", "guard(0, 0, 7, 0)",
            "guard(0, 0, 1, 9)", "game(0, 1, 4, 0)", "game(0, 1, 3, 2)", "game(1, 1, 3, 0)", "relay(0, 2)", "relay(2, 0)")
            .are(NONE, "way(0, 0)", "way(0, 10)", "both(0, 1, 0)", "guard(0, 0, 1, 0)", "game(0, 1, 3, 0)", "relay(0, 0)");
    }

    @Says(promise = 0, value = "each with a REST (0 to 3 MINUTES that it is shut still; 0: it is OPEN)")
    private static void rests() {
        for (int b = 0; b < 6; b++) {
            for (int rest = 0; rest <= 3; rest++) {
                Run r = Run.told(SIX + "one 0 1;").is("shut(" + b + ", " + rest + ")", 0);
                for (int left = rest; left > 0; left--) {
                    r.is("bridge(" + b + ", 3)", left).is("count(0)", 5).is("one(0, 2)", 63 - (1 << b)).is("minute(" + (b + 1) + ")", 1);
                }
                r.is("bridge(" + b + ", 3)", 0).is("count(0)", 6).is("one(0, 2)", 63).is("minute(" + (b + 1) + ")", 0).is("one(0, 0)", 1);
            }
        }
    }

    @Says(promise = 0, value = "TO CROSS a BRIDGE, which is OPEN, at one's PLACE, brings one to its other PLACE")
    private static void toCross() {
        for (int a = 0; a < 5; a++) {
            for (int b = 0; b < 5; b++) {
                if (a == b) continue;
                Run r = Run.told("places 5;bridge " + a + " " + b + ";one 0 0;");
                for (int at = 0; at < 5; at++) {
                    int then = at == a ? b : at == b ? a : at;
                    r.does("send(0, " + at + ", 0)").is("minute(1)", then == at ? 1 : 0).is("one(0, 0)", then);
                }
            }
        }
    }

    @Says(promise = 0, value = "0: that which HANGS on it is shut")
    private static void lawNought() {
        Run.told(SIX + "chain 0 5;chain 5 1;chain 1 2;one 0 1;").is("minute(1)", 0).row("bridge(#, 3)", 0, 0, 0, 0, 0, 2);
        Run.told(SIX + "chain 0 5;chain 5 1;one 0 1;").is("minute(6)", 0).row("bridge(#, 3)", 0, 2, 0, 0, 0, 0);
        Run.told(SIX + "chain 0 5;one 0 1;").is("minute(2)", 0).row("bridge(#, 3)", 0, 0, 0, 0, 0, 0);
        Run.told("bridge 0 1;one 0 1;").is("minute(1)", 0).is("bridge(0, 3)", 0);
    }

    @Says(promise = 0, value = "1: it is shut itself, and that which HANGS on it is OPEN")
    private static void lawOne() {
        Run.told("law 1;" + SIX + "chain 0 5;shut 5 3;shut 4 3;one 0 1;").is("minute(1)", 0).row("bridge(#, 3)", 2, 0, 0, 0, 2, 0);
        Run.told("law 1;" + SIX + "one 0 1;").is("minute(6)", 0).row("bridge(#, 3)", 0, 0, 0, 0, 0, 2);
        Run.told("law 1;" + SIX + "chain 0 1;shut 1 3;one 0 1;one 0 1;").is("minute(17)", 0).row("bridge(#, 3)", 2, 2, 0, 0, 0, 0);
        Run.told("law 1;" + SIX + "chain 1 0;one 0 1;one 0 1;one 0 1;").is("minute(81)", 0).row("bridge(#, 3)", 2, 2, 0, 0, 0, 0);
        Run.told("law 1;" + SIX + "chain 1 0;one 0 1;one 0 1;").is("minute(17)", 0).row("bridge(#, 3)", 0, 2, 0, 0, 0, 0);
    }

    @Says(promise = 0, value = "2: those next to it by number are shut")
    private static void lawTwo() {
        long[][] want = {{0, 2, 0, 0, 0, 0}, {2, 0, 2, 0, 0, 0}, {0, 2, 0, 2, 0, 0}, {0, 0, 2, 0, 2, 0}, {0, 0, 0, 2, 0, 2}, {0, 0, 0, 0, 2, 0}};
        for (int b = 0; b < 6; b++) Run.told("law 2;" + SIX + "chain 0 4;one 0 1;").is("minute(" + (b + 1) + ")", 0).row("bridge(#, 3)", want[b]);
        Run.told("law 2;bridge 0 1;one 0 1;").is("minute(1)", 0).is("bridge(0, 3)", 0).is("count(0)", 1);
        Run.told("law 2;bridge 0 1;bridge 0 1;one 0 1;").is("minute(2)", 0).row("bridge(#, 3)", 2, 0, BAD);
        Run.told("law 2;" + SIX + "one 0 1;").does("minute(2)", "minute(0)").taken("law 2;bridge 0 1;one 0 1;", 3).is("minute(1)", 0).is("count(0)", 1)
            .taken("bridge 0 1;bridge 0 1;", 2).row("bridge(#, 3)", 0, 0);
    }

    @Says(promise = 0, value = "SHUT thus it is in the rest of this MINUTE and in HOLD MINUTES behind it")
    private static void shutForHold() {
        for (int hold = 1; hold <= 3; hold++) {
            Run r = Run.told("hold " + hold + ";bridge 0 1;bridge 0 1;chain 0 1;" + THREE_ONES).is("minute(17)", 2).is("bridge(1, 3)", hold);
            for (int i = hold; i > 0; i--) r.is("bridge(1, 3)", i).is("count(0)", 1).is("minute(16)", 2);
            r.is("bridge(1, 3)", 0).is("count(0)", 2).is("minute(16)", 0).is("one(1, 0)", 1);
            Run.told("hold " + hold + ";bridge 0 1;bridge 0 1;chain 0 1;" + THREE_ONES).is("minute(10)", 0).is("bridge(1, 3)", hold);
        }
    }

    @Says(promise = 0, value = "(if it was shut already, too)")
    private static void shutAlready() {
        for (int hold = 1; hold <= 3; hold++) {
            for (int rest = 0; rest <= 3; rest++) {
                Run.told("hold " + hold + ";bridge 0 1;bridge 0 1;chain 0 1;one 0 1;").does("shut(1, " + rest + ")").is("minute(1)", 0).is("bridge(1, 3)", hold);
                Run.told("law 2;hold " + hold + ";bridge 0 1;bridge 0 1;one 0 1;").does("shut(0, " + rest + ")").is("minute(2)", 0).is("bridge(0, 3)", hold);
            }
            Run.told("hold " + hold + ";bridge 0 1;bridge 0 1;chain 0 1;" + THREE_ONES).is("minute(73)", 0).is("bridge(1, 3)", hold);
        }
    }

    @Says(promise = 0, value = "A MINUTE: ONE by ONE, by numbers, each stays, or would CROSS a BRIDGE: does, or, where he can not, stays.")
    private static void oneByOne() {
        String text = "places 3;bridge 0 1;bridge 1 2;bridge 0 2;chain 0 1;chain 1 2;chain 2 0;one 0 0;one 1 1;one 2 2;";
        Run.told(text).is("minute(209)", 2).row("one(#, 0)", 1, 1, 0).row("bridge(#, 3)", 2, 2, 0);
        Run.told(text).is("minute(201)", 0).row("one(#, 0)", 1, 0, 0).row("bridge(#, 3)", 2, 2, 0);
        Run.told(text).is("minute(16)", 0).row("one(#, 0)", 0, 2, 2).row("bridge(#, 3)", 0, 0, 2);
        Run.told(text).is("minute(0)", 0).row("one(#, 0)", 0, 1, 2).row("bridge(#, 3)", 0, 0, 0);
    }

    @Says(promise = 0, value = "Then each REST above 0 is 1 less (of what was SHUT in this MINUTE it is HOLD then), THE MINUTE is 1 more.")
    private static void restsGoDown() {
        Run.told(SIX + "shut 0 3;shut 2 2;shut 4 1;shut 5 3;").is("minute(0)", 0).row("bridge(#, 3)", 2, 0, 1, 0, 0, 2).is("rule(5)", 1)
            .is("minute(0)", 0).row("bridge(#, 3)", 1, 0, 0, 0, 0, 1).is("minute(0)", 0).row("bridge(#, 3)", 0, 0, 0, 0, 0, 0)
            .is("minute(0)", 0).row("bridge(#, 3)", 0, 0, 0, 0, 0, 0).is("rule(5)", 4);
        Run.told(SIX + Run.times(1, "shut 0 3;shut 1 3;shut 2 3;shut 3 3;shut 4 3;shut 5 3;")).is("minute(0)", 0).row("bridge(#, 3)", 2, 2, 2, 2, 2, 2);
    }

    @Says(promise = 0, value = "MOVES of a MINUTE as a NUMBER: to the base 8, of ONE 0 the lowest figure: 0 he stays; 1 and b: he would CROSS BRIDGE b.")
    private static void figures() {
        for (int p = 0; p < 3; p++) {
            for (int b = 0; b < 6; b++) {
                int move = b + 1 << 3 * p;
                Run.told(SIX + "chain 0 1;chain 1 2;chain 2 3;chain 3 4;chain 4 5;chain 5 0;" + THREE_ONES).is("minute(" + move + ")", 0)
                    .row("one(#, 0)", p == 0 ? 1 : 0, p == 1 ? 1 : 0, p == 2 ? 1 : 0).is("bridge(" + (b + 1) % 6 + ", 3)", 2).is("count(0)", 5);
            }
        }
        Run.told(SIX + THREE_ONES).is("minute(438)", 0).row("one(#, 0)", 1, 1, 1).is("minute(0)", 0).row("one(#, 0)", 1, 1, 1);
    }

    // ---- promises 6 to 13

    @Says(promise = 6, value = "0 PLACES, 1 BRIDGES, 2 PEOPLE, 3 LAW, 4 HOLD, 5 THE MINUTE. BAD.")
    private static void rule() {
        Run.told("places 5;hold 3;law 1;bridge 0 4;bridge 4 1;one 2 2;").does("minute(0)", "minute(0)", "minute(0)", "minute(0)")
            .row("rule(#)", 5, 2, 1, 1, 3, 4, BAD).are(BAD, "rule(-1)", "rule(7)", "rule(MIN)", "rule(MAX)", "rule(NONE)");
    }

    @Says(promise = 7, value = "0 its first PLACE, 1 the second one, 2 which HANGS on it (NONE), 3 REST. BAD.")
    private static void bridge() {
        Run.told("places 5;bridge 4 0;bridge 2 3;chain 1 0;shut 0 3;").row("bridge(0, #)", 4, 0, NONE, 3, BAD).row("bridge(1, #)", 2, 3, 0, 0, BAD)
            .row("bridge(2, #)", BAD, BAD, BAD, BAD, BAD).are(BAD, "bridge(-1, 0)", "bridge(-1, 2)", "bridge(NONE, 3)", "bridge(0, -1)", "bridge(0, 5)",
                "bridge(MIN, 0)", "bridge(MAX, 0)", "bridge(0, MIN)", "bridge(0, MAX)", "bridge(6, 0)");
        new Run().are(BAD, "bridge(0, 0)", "bridge(0, 2)", "bridge(0, 3)");
        Run.told(SIX).are(BAD, "bridge(6, 0)", "bridge(7, 2)", "bridge(8, 3)").is("bridge(5, 1)", 1);
        Run.told(SIX).taken("bridge 0 1;", 1).are(BAD, "bridge(1, 0)", "bridge(5, 3)");
    }

    @Says(promise = 8, value = "Of a ONE: 0 PLACE, 1 GOAL, 2 BRIDGES that he can CROSS now (bits). BAD.")
    private static void one() {
        Run.told("places 5;" + SIX + "one 4 3;one 0 1;").row("one(0, #)", 4, 3, 0, BAD).row("one(1, #)", 0, 1, 63, BAD).row("one(2, #)", BAD, BAD, BAD, BAD)
            .are(BAD, "one(-1, 0)", "one(NONE, 2)", "one(0, -1)", "one(3, 2)", "one(MIN, 0)", "one(MAX, 2)", "one(0, MIN)", "one(0, MAX)");
        new Run().are(BAD, "one(0, 0)", "one(0, 1)", "one(0, 2)");
        Run.told(THREE_ONES).row("one(#, 2)", 0, 0, 0, BAD).are(BAD, "one(3, 0)", "one(4, 0)").taken("one 0 1;", 1).are(BAD, "one(1, 0)", "one(2, 2)");
        Run.told("places 3;bridge 0 1;bridge 1 2;bridge 2 0;bridge 1 0;shut 0 1;one 0 0;one 1 0;one 2 0;").row("one(#, 2)", 12, 10, 6);
    }

    @Says(promise = 9, value = "LAW becomes v: what it was. BAD.")
    private static void law() {
        new Run().are(BAD, "law(-1)", "law(3)", "law(MIN)", "law(MAX)", "law(NONE)").is("rule(3)", 0).is("law(0)", 0).is("law(1)", 0).is("rule(3)", 1)
            .is("law(2)", 1).is("law(3)", BAD).is("rule(3)", 2).is("law(2)", 2).is("law(0)", 2).is("rule(3)", 0);
    }

    @Says(promise = 10, value = "HOLD becomes v: what it was. BAD.")
    private static void hold() {
        new Run().are(BAD, "hold(0)", "hold(4)", "hold(-1)", "hold(MIN)", "hold(MAX)", "hold(NONE)").is("rule(4)", 2).is("hold(1)", 2).is("rule(4)", 1)
            .is("hold(3)", 1).are(BAD, "hold(0)", "hold(4)").is("rule(4)", 3).is("hold(2)", 3).is("hold(2)", 2).is("rule(4)", 2);
    }

    @Says(promise = 11, value = "On a BRIDGE there HANGS c (another one; NONE: none): what did. BAD.")
    private static void chain() {
        Run.told("bridge 0 1;bridge 0 1;bridge 0 1;").is("chain(0, NONE)", NONE).is("chain(0, 2)", NONE).is("chain(0, 1)", 2).is("chain(2, 1)", NONE)
            .is("chain(2, 0)", 1).are(BAD, "chain(0, 0)", "chain(1, 1)", "chain(2, 2)", "chain(0, 3)", "chain(0, 6)", "chain(0, -1)", "chain(0, -2)",
                "chain(0, -3)", "chain(0, -5)", "chain(3, 0)", "chain(-1, 0)", "chain(NONE, 0)", "chain(NONE, NONE)", "chain(3, NONE)", "chain(0, MIN)",
                "chain(0, MAX)", "chain(MIN, 0)", "chain(MAX, 0)")
            .row("bridge(#, 2)", 1, NONE, 0).is("chain(0, NONE)", 1).row("bridge(#, 2)", NONE, NONE, 0);
        new Run().are(BAD, "chain(0, 1)", "chain(0, NONE)");
        Run.told("bridge 0 1;").are(BAD, "chain(0, 0)", "chain(0, 1)").is("chain(0, NONE)", NONE);
        Run.told(SIX).is("chain(5, 0)", NONE).is("chain(0, 5)", NONE).are(BAD, "chain(5, 6)", "chain(6, 5)", "chain(5, 5)").is("rings()", 33);
    }

    @Says(promise = 12, value = "REST of a BRIDGE becomes v: what it was. BAD.")
    private static void shut() {
        Run.told("bridge 0 1;bridge 0 1;").is("shut(0, 3)", 0).is("shut(0, 2)", 3).is("shut(0, 1)", 2).is("shut(0, 0)", 1).is("shut(0, 0)", 0)
            .is("shut(1, 3)", 0).are(BAD, "shut(1, 4)", "shut(1, -1)", "shut(1, MIN)", "shut(1, MAX)", "shut(1, NONE)", "shut(2, 0)", "shut(-1, 0)",
                "shut(MIN, 1)", "shut(MAX, 1)", "shut(6, 1)").row("bridge(#, 3)", 0, 3).is("count(0)", 1);
        new Run().is("shut(0, 0)", BAD);
        Run.told(SIX).does("shut(0, 1)", "shut(1, 2)", "shut(2, 3)", "shut(3, 1)", "shut(4, 2)", "shut(5, 3)").row("bridge(#, 3)", 1, 2, 3, 1, 2, 3)
            .are(BAD, "shut(6, 3)", "shut(7, 3)").row("bridge(#, 3)", 1, 2, 3, 1, 2, 3).is("shut(2, 0)", 3).row("bridge(#, 3)", 1, 2, 0, 1, 2, 3);
    }

    @Says(promise = 13, value = "A ONE stands at a PLACE, with a GOAL: the PLACE where he was. BAD.")
    private static void send() {
        for (int n = 2; n <= 5; n++) {
            int last = n - 1;
            Run.told("places " + n + ";one 0 0;one 1 1;").is("send(0, " + last + ", 0)", 0).is("send(0, 0, " + last + ")", last)
                .are(BAD, "send(0, " + n + ", 0)", "send(0, 0, " + n + ")", "send(0, -1, 0)", "send(0, 0, -1)", "send(2, 0, 0)", "send(-1, 0, 0)")
                .is("one(0, 0)", 0).is("one(0, 1)", last).is("one(1, 0)", 1).is("one(1, 1)", 1);
        }
        new Run().is("send(0, 0, 0)", BAD);
        Run.told(THREE_ONES).are(BAD, "send(3, 0, 0)", "send(0, MIN, 0)", "send(0, MAX, 0)", "send(0, 0, MIN)", "send(0, 0, MAX)", "send(MIN, 0, 0)",
            "send(MAX, 0, 0)", "send(0, 5, 0)", "send(0, 0, 5)").is("send(2, 1, 1)", 0).is("send(2, 0, 0)", 1).row("one(#, 0)", 0, 0, 0).row("one(#, 1)", 1, 1, 0);
    }

    // ---- promise 14

    @Says(promise = 14, value = "A MINUTE by MOVES: ONES who would CROSS and could not (bits).")
    private static void stuckBits() {
        for (int who = 0; who < 8; who++) {
            int moves = (who & 1) + 8 * (who >> 1 & 1) + 64 * (who >> 2);
            Run.told("bridge 0 1;shut 0 1;" + THREE_ONES).is("minute(" + moves + ")", who).row("one(#, 0)", 0, 0, 0).is("rule(5)", 1).is("bridge(0, 3)", 0);
            Run.told("bridge 0 1;" + THREE_ONES).is("minute(" + moves + ")", 0).row("one(#, 0)", who & 1, who >> 1 & 1, who >> 2);
        }
    }

    @Says(promise = 14, value = "BAD: a figure above BRIDGES")
    private static void figureAboveBridges() {
        for (int n = 0; n <= 6; n++) {
            for (int p = 0; p < 3; p++) {
                Run r = Run.told(Run.times(n, "bridge 0 1;") + THREE_ONES);
                for (int f = n + 1; f <= 7; f++) r.is("minute(" + (f << 3 * p) + ")", BAD);
                r.is("rule(5)", 0).row("one(#, 0)", 0, 0, 0).is("minute(" + (n << 3 * p) + ")", 0).is("rule(5)", 1);
            }
        }
        Run.told("bridge 0 1;" + THREE_ONES).are(BAD, "minute(17)", "minute(130)", "minute(129)", "minute(10)").is("rule(5)", 0).is("minute(73)", 0);
    }

    @Says(promise = 14, value = "above 0 of no ONE")
    private static void figureOfNoOne() {
        for (int people = 0; people <= 3; people++) {
            Run r = Run.told(SIX + Run.times(people, "one 0 1;"));
            for (int p = people; p < 10; p++) r.are(BAD, "minute(" + (1 << 3 * p) + ")", "minute(" + (6 << 3 * p) + ")");
            r.are(BAD, "minute(1073741824)", "minute(MAX)", "minute(MIN)", "minute(-1)", "minute(-8)", "minute(-64)", "minute(-512)").is("rule(5)", 0)
                .row("one(#, 0)", people > 0 ? 0 : BAD, people > 1 ? 0 : BAD, people > 2 ? 0 : BAD);
            if (people > 0) r.is("minute(" + (1 << 3 * people - 3) + ")", 0).is("rule(5)", 1);
            else r.is("minute(0)", 0).is("rule(5)", 1);
        }
    }

    @Says(promise = 14, value = "FULL: it would be the 1000th.")
    private static void the1000th() {
        String text = "bridge 0 1;bridge 0 1;chain 0 1;one 0 1;";
        Run.late(text).does("shut(0, 3)").are(FULL, "minute(0)", "minute(2)").is("rule(5)", 999).is("bridge(0, 3)", 3).is("one(0, 0)", 0);
        Run.late(text).is("keep(0)", 0).is("back(0)", 999).is("minute(0)", FULL).taken(text, 4).is("minute(0)", 0).is("rule(5)", 1);
        Run r = Run.told(text).does("keep(1)", "sheet(3, 0, 20)");
        for (int i = 0; i < 49; i++) r.ask("read(3, 0, 0, 20)");
        r.is("read(3, 0, 0, 18)", 18).is("rule(5)", 998).is("minute(1)", 0).is("rule(5)", 999).is("one(0, 0)", 1).is("bridge(1, 3)", 2).is("minute(1)", FULL)
            .is("one(0, 0)", 1).is("bridge(1, 3)", 2).is("back(1)", 0).is("minute(1)", 0).is("back(0)", STATE);
    }
}
