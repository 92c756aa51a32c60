/** What was SEEN and the RIGS that FIT it: promises 23 to 27 and what block 2 says of them. */
final class SeenEdges {
    private static final int NONE = Run.NONE, BAD = Run.BAD, FULL = Run.FULL;
    private static final String TWO = "bridge 0 1;bridge 0 1;";
    private static final String THREE = "bridge 0 1;bridge 0 1;bridge 0 1;";
    private static final String SIX = THREE + THREE;

    private SeenEdges() { }

    // ---- terms

    @Says(promise = 0, value = "SEEN (6), MINUTE by MINUTE from one where all are OPEN")
    private static void fromAllOpen() {
        Run.told(TWO + "shut 0 3;shut 1 3;one 0 1;").is("saw(0, 0, true)", 1).is("rigs(0)", 4).is("saw(NONE, 1, false)", 2).is("rigs(0)", 2)
            .does("minute(0)", "shut(0, 0)", "chain(0, NONE)").is("rigs(0)", 2).is("rigs(10)", 1);
        Run r = Run.told(TWO);
        for (int i = 1; i <= 6; i++) r.is("saw(0, 1, true)", i);
        r.is("saw(0, 1, true)", FULL).is("rigs(0)", 2).is("count(2)", 6);
    }

    @Says(promise = 0, value = "the BRIDGE that was CROSSED in it (by somebody who could), or none; a BRIDGE, and whether it was OPEN behind that MINUTE.")
    private static void behindThatMinute() {
        for (int hold = 1; hold <= 3; hold++) {
            Run r = Run.told("hold " + hold + ";" + TWO).is("saw(0, 1, false)", 1).is("rigs(0)", 2);
            for (int i = 2; i <= hold; i++) r.is("saw(NONE, 1, false)", i).is("rigs(0)", 2);
            r.is("saw(NONE, 1, false)", hold + 1).is("rigs(0)", 0).is("forget(" + hold + ")", hold + 1).is("saw(NONE, 1, true)", hold + 1).is("rigs(0)", 2);
        }
        Run.told(TWO).is("saw(NONE, 0, true)", 1).is("rigs(0)", 4).is("saw(NONE, 1, false)", 2).is("rigs(0)", 0);
    }

    @Says(promise = 0, value = "A RIG tells of each BRIDGE which HANGS on it (another one, or none)")
    private static void allRigs() {
        long[] all = {1, 1, 4, 27, 256, 3125, 46656};
        for (int n = 0; n <= 6; n++) Run.told(Run.times(n, "bridge 0 1;")).is("rigs(0)", all[n]);
        Run.told(TWO + "chain 0 1;chain 1 0;").is("rigs(0)", 4);
        Run.told("bridge 0 1;").is("hangs(0)", 64).is("rigs(10)", NONE).is("saw(0, 0, true)", 1).is("rigs(0)", 1).is("saw(0, 0, false)", 2).is("rigs(0)", 0);
    }

    @Says(promise = 0, value = "it FITS, if by LAW 0, with HOLD, all is so as SEEN")
    private static void fitsByLawNought() {
        for (int law = 0; law < 3; law++) {
            Run.told("law " + law + ";hold 1;" + THREE).does("saw(1, 1, true)").is("rigs(0)", 27).does("saw(1, 0, false)").is("rigs(0)", 9).is("hangs(1)", 1)
                .does("saw(NONE, 0, false)").is("rigs(0)", 0).does("hold(2)").is("rigs(0)", 9).does("hold(3)").is("rigs(0)", 9).does("law(0)").is("rigs(0)", 9);
        }
        Run.told("hold 2;" + TWO).does("saw(0, 1, false)", "saw(0, 1, false)", "saw(NONE, 1, false)", "saw(NONE, 1, true)").is("rigs(0)", 2);
        Run.told("hold 2;" + TWO).does("saw(0, 1, false)", "saw(0, 1, false)", "saw(NONE, 1, false)", "saw(NONE, 1, false)").is("rigs(0)", 0);
    }

    @Says(promise = 0, value = "each that was CROSSED was OPEN ahead of it.")
    private static void openAhead() {
        Run.told("hold 1;" + TWO).does("saw(0, 0, true)", "saw(1, 1, true)").is("rigs(0)", 2).is("hangs(0)", 64).is("hangs(1)", 65);
        Run.told("hold 1;" + TWO).does("saw(0, 0, true)", "saw(NONE, 0, true)", "saw(1, 1, true)").is("rigs(0)", 4);
        Run.told("hold 1;" + TWO).does("saw(0, 1, false)", "saw(1, 1, false)").is("rigs(0)", 0);
        Run.told("hold 2;" + TWO).does("saw(0, 0, true)", "saw(NONE, 0, true)", "saw(1, 1, true)").is("rigs(0)", 2);
        Run.told("hold 1;" + THREE).does("saw(0, 1, false)", "saw(2, 1, true)", "saw(1, 2, true)").is("rigs(0)", 4).is("hangs(2)", 65).is("hangs(1)", 65);
    }

    // ---- 23 saw, 24 forget

    @Says(promise = 23, value = "SEEN: a MINUTE more: which was CROSSED (NONE: none), which was looked at, whether it was OPEN: how many are.")
    private static void saw() {
        Run.told(SIX).is("saw(NONE, 0, true)", 1).is("saw(5, 5, true)", 2).is("saw(0, 0, true)", 3).is("saw(0, 5, false)", 4).is("count(2)", 4).is("rigs(0)", 6480).is("rigs(10)", 5).is("rigs(15)", 1);
        Run.told(TWO).is("saw(0, 1, true)", 1).is("rigs(10)", NONE).is("forget(0)", 1).is("saw(0, 1, false)", 1).is("rigs(10)", 1).is("forget(0)", 1)
            .is("saw(1, 0, false)", 1).is("rigs(11)", 0).is("hangs(0)", 66);
    }

    @Says(promise = 23, value = "BAD; FULL.")
    private static void sawRefused() {
        Run r = Run.told(TWO).are(BAD, "saw(2, 0, true)", "saw(-1, 0, true)", "saw(-2, 0, true)", "saw(-3, 0, true)", "saw(-5, 0, true)", "saw(6, 0, true)", "saw(0, 2, true)", "saw(0, -1, false)",
            "saw(0, NONE, false)", "saw(0, 6, true)", "saw(NONE, NONE, true)", "saw(MIN, 0, true)", "saw(MAX, 0, true)", "saw(0, MIN, true)", "saw(0, MAX, true)").is("count(2)", 0).is("rigs(0)", 4);
        for (int i = 1; i <= 6; i++) r.is("saw(1, 1, true)", i);
        r.are(FULL, "saw(0, 0, true)", "saw(0, 0, false)", "saw(NONE, 1, false)").is("count(2)", 6).is("rigs(0)", 4).are(BAD, "saw(2, 0, true)", "saw(0, 2, true)")
            .is("forget(5)", 6).is("saw(1, 0, false)", 6).is("saw(1, 0, false)", FULL).is("rigs(0)", 2);
        new Run().are(BAD, "saw(NONE, 0, true)", "saw(0, 0, true)", "saw(NONE, NONE, true)");
    }

    @Says(promise = 24, value = "SEEN are the first n alone: how many there were. BAD.")
    private static void forget() {
        new Run().is("forget(0)", 0).are(BAD, "forget(1)", "forget(-1)", "forget(6)", "forget(MIN)", "forget(MAX)");
        Run r = Run.told(TWO).does("saw(0, 1, true)", "saw(1, 0, false)", "saw(NONE, 0, true)", "saw(NONE, 1, false)").is("rigs(0)", 0);
        r.are(BAD, "forget(5)", "forget(6)", "forget(7)", "forget(-1)", "forget(NONE)", "forget(MIN)", "forget(MAX)").is("count(2)", 4).is("forget(4)", 4).is("count(2)", 4)
            .is("forget(2)", 4).is("forget(3)", BAD).is("rigs(0)", 1).is("forget(1)", 2).is("rigs(0)", 2).is("hangs(0)", 64).is("forget(0)", 1).is("rigs(0)", 4).is("forget(1)", BAD);
        Run full = Run.told(TWO);
        for (int i = 0; i < 6; i++) full.ask("saw(0, 1, true)");
        full.are(BAD, "forget(7)").is("forget(6)", 6).is("forget(5)", 6).is("forget(6)", BAD).is("saw(0, 0, true)", 6);
    }

    // ---- 25 rigs, 26 hangs

    @Says(promise = 25, value = "RIGS that FIT: how many (what 0)")
    private static void howMany() {
        Run.told("hold 1;" + SIX).is("rigs(0)", 46656).does("saw(0, 0, true)").is("rigs(0)", 46656).does("saw(NONE, 1, true)").is("rigs(0)", 46656).does("saw(0, 1, false)").is("rigs(0)", 7776)
            .does("saw(2, 1, true)").is("rigs(0)", 6480).does("saw(2, 3, true)").is("rigs(0)", 5184).does("saw(1, 1, true)").is("rigs(0)", 5184).is("count(2)", 6)
            .is("forget(3)", 6).is("rigs(0)", 7776).does("saw(NONE, 1, false)").is("rigs(0)", 0);
    }

    @Says(promise = 25, value = "10 and b: which HANGS on BRIDGE b in the first of them, by BRIDGES, each by numbers, none last (NONE: none).")
    private static void firstRig() {
        Run.told(SIX).moves("rigs(#)", 1, 0, 0, 0, 0, 0, BAD);
        Run.told("bridge 0 1;").moves("rigs(#)", NONE, BAD);
        Run.told(TWO).moves("rigs(#)", 1, 0, BAD).does("saw(0, 1, true)").moves("rigs(#)", NONE, 0, BAD).does("saw(1, 0, true)").moves("rigs(#)", NONE, NONE, BAD);
        Run.told("hold 1;" + THREE).does("saw(0, 1, true)").moves("rigs(#)", 2, 0, 0, BAD).does("saw(NONE, 0, true)", "saw(1, 0, true)").moves("rigs(#)", 2, 2, 0, BAD)
            .does("saw(NONE, 0, true)", "saw(2, 0, true)").moves("rigs(#)", 2, 2, 1, BAD).does("saw(NONE, 1, true)").moves("rigs(#)", 2, 2, 1, BAD);
        Run.told("hold 1;" + THREE).does("saw(0, 0, true)", "saw(1, 2, false)", "saw(NONE, 2, true)").is("rigs(0)", 6).moves("rigs(#)", 2, 2, 0, BAD)
            .does("forget(0)", "saw(0, 0, true)", "saw(0, 1, false)").moves("rigs(#)", 1, 0, 0, BAD);
    }

    @Says(promise = 25, value = "BAD; NONE (10 and b): there is none, too.")
    private static void rigsRefused() {
        Run.told(TWO).row("rigs(#)", 4, BAD, BAD, BAD, BAD, BAD, BAD, BAD, BAD, BAD, 1, 0, BAD, BAD).are(BAD, "rigs(-1)", "rigs(MIN)", "rigs(MAX)", "rigs(NONE)", "rigs(16)")
            .does("saw(NONE, 0, false)").row("rigs(#)", 0, BAD, BAD, BAD, BAD, BAD, BAD, BAD, BAD, BAD, NONE, NONE, BAD, BAD);
        Run.told(SIX).are(BAD, "rigs(16)", "rigs(17)", "rigs(9)").is("rigs(15)", 0);
        new Run().is("rigs(0)", 1).are(BAD, "rigs(10)", "rigs(9)", "rigs(1)");
    }

    @Says(promise = 26, value = "Which can HANG on a BRIDGE by RIGS that FIT (bits; 64: none). BAD.")
    private static void hangs() {
        Run.told(SIX).row("hangs(#)", 126, 125, 123, 119, 111, 95, BAD).are(BAD, "hangs(-1)", "hangs(7)", "hangs(NONE)", "hangs(MIN)", "hangs(MAX)");
        Run.told("hold 1;" + SIX).does("saw(5, 0, true)").row("hangs(#)", 126, 125, 123, 119, 111, 94, BAD).does("saw(NONE, 5, true)", "saw(5, 4, false)").row("hangs(#)", 126, 125, 123, 119, 111, 16, BAD)
            .does("saw(NONE, 4, false)").row("hangs(#)", 0, 0, 0, 0, 0, 0, BAD);
        Run.told("bridge 0 1;").row("hangs(#)", 64, BAD);
        new Run().are(BAD, "hangs(0)", "hangs(-1)");
        Run.told("hold 1;" + THREE).does("saw(0, 0, true)", "saw(1, 2, false)").row("hangs(#)", 68, 4, 67, BAD);
    }

    // ---- 27 look

    @Says(promise = 27, value = "10 times that CROSSED (6: none) and that looked at, such that fewest RIGS can be left at the worst, fewer than now, of several the least (what 0), how many these are (1).")
    private static void look() {
        Run.told(TWO).row("look(#)", 1, 2, BAD).does("saw(0, 1, false)").is("rigs(0)", 2);
        Run.told("hold 1;" + TWO).does("saw(0, 1, true)").row("look(#)", 10, 1, BAD).does("saw(1, 0, true)").is("rigs(0)", 1).row("look(#)", NONE, NONE, BAD);
        Run.told(THREE).row("look(#)", 1, 18, BAD).does("saw(0, 1, true)").row("look(#)", 20, 6, BAD).does("saw(0, 2, true)").row("look(#)", 10, 6, BAD);
        Run.told(SIX).row("look(#)", 1, 38880, BAD);
        Run.told("hold 1;" + THREE).does("saw(0, 0, true)", "saw(NONE, 0, true)").is("rigs(0)", 27).row("look(#)", 1, 18, BAD);
        Run.told("bridge 0 1;").row("look(#)", NONE, NONE, BAD);
        Run.told("hold 1;law 2;" + TWO).does("saw(1, 0, true)").row("look(#)", 1, 1, BAD);
    }

    @Says(promise = 27, value = "(RIGS by which the one CROSSED is not OPEN are ruled out.)")
    private static void ruledOut() {
        Run.told("hold 1;" + TWO).does("saw(0, 1, false)").row("look(#)", 10, 0, BAD).does("saw(NONE, 1, true)").row("look(#)", 10, 1, BAD);
        Run.told("hold 1;" + TWO).does("saw(0, 1, true)", "saw(1, 0, false)").is("rigs(0)", 1).row("look(#)", 0, 0, BAD).does("saw(0, 1, true)").is("rigs(0)", 0);
        Run.told("hold 3;" + TWO).does("saw(0, 1, false)", "saw(NONE, 1, false)").row("look(#)", 10, 0, BAD).does("saw(NONE, 1, false)").row("look(#)", 10, 0, BAD)
            .does("saw(NONE, 1, true)").row("look(#)", 10, 1, BAD);
        Run.told("hold 3;" + THREE).does("saw(0, 0, true)").row("look(#)", 10, 12, BAD);
    }

    @Says(promise = 27, value = "BAD; NONE: none, there are none.")
    private static void lookRefused() {
        new Run().row("look(#)", NONE, NONE, BAD).are(BAD, "look(-1)", "look(10)", "look(MIN)", "look(MAX)", "look(NONE)");
        Run.told(TWO).does("saw(NONE, 1, false)").is("rigs(0)", 0).row("look(#)", NONE, NONE, BAD).are(BAD, "look(-1)", "look(10)", "look(MIN)", "look(MAX)");
        Run.told("hold 1;" + TWO).does("saw(0, 1, true)", "saw(1, 0, true)").is("rigs(0)", 1).row("look(#)", NONE, NONE, BAD);
    }
}
