/** IMAGES, SHEETS, what is read of them, and the counts: promises 28 to 34. */
final class SheetEdges {
    private static final int NONE = Run.NONE, BAD = Run.BAD, STATE = Run.STATE;
    private static final int NULL = 1, INDEX = 2, CAST = 3;
    private static final String TOWN = "places 3;hold 1;bridge 0 1;bridge 1 2;bridge 0 2;chain 0 1;one 0 2;one 2 0;one 1 1;";
    private static final String THREE_ONES = "one 0 1;one 0 1;one 0 1;";

    private SheetEdges() { }

    // ---- 28 keep, 29 back

    @Says(promise = 28, value = "whether there was one (1, 0). BAD.")
    private static void keep() {
        new Run().are(BAD, "keep(2)", "keep(-1)", "keep(MIN)", "keep(MAX)", "keep(NONE)").is("count(3)", 0).is("keep(1)", 0).is("count(3)", 1).is("keep(0)", 0).is("count(3)", 2)
            .are(1, "keep(0)", "keep(1)", "keep(0)").is("keep(2)", BAD).is("count(3)", 2).is("text()", 0).is("count(3)", 0).are(0, "keep(0)", "keep(1)");
    }

    @Says(promise = 28, value = "IMAGE k (0, 1) is all of BRIDGES, PEOPLE, LAW, HOLD, THE MINUTE")
    private static void imageHoldsAll() {
        for (int k = 0; k <= 1; k++) {
            Run r = Run.told(TOWN).does("law(1)", "shut(2, 3)", "chain(2, 0)", "minute(1)", "keep(" + k + ")");
            r.does("law(2)", "hold(3)", "chain(0, 2)", "chain(1, 0)", "chain(2, NONE)", "shut(0, 0)", "shut(1, 3)", "shut(2, 0)", "send(0, 2, 2)", "send(1, 1, 1)", "send(2, 0, 0)", "minute(0)", "minute(2)");
            r.is("back(" + k + ")", 1).row("rule(#)", 3, 3, 3, 1, 1, 1).row("bridge(#, 0)", 0, 1, 0).row("bridge(#, 1)", 1, 2, 2).row("bridge(#, 2)", 1, NONE, 0).row("bridge(#, 3)", 1, 0, 2)
                .row("one(#, 0)", 1, 2, 1).row("one(#, 1)", 2, 0, 1);
        }
    }

    @Says(promise = 28, value = "IMAGE k (0, 1)")
    private static void imagesStandApart() {
        Run.told(TOWN).does("keep(0)", "minute(1)", "keep(1)", "minute(0)").is("back(0)", 0).is("one(0, 0)", 0).is("back(1)", 1).is("one(0, 0)", 1).is("bridge(1, 3)", 1)
            .does("minute(0)", "shut(1, 3)", "hold(3)").is("back(1)", 1).is("bridge(1, 3)", 1).is("rule(4)", 1).is("keep(0)", 1).is("back(0)", 1).is("back(1)", 1);
    }

    @Says(promise = 29, value = "All is as IMAGE k: THE MINUTE.")
    private static void backLeavesTheRest() {
        Run.told(TOWN).does("keep(0)", "saw(0, 1, false)", "sheet(0, 1, 9)", "read(0, 1, 8, 2)", "feed(0)", "keep(1)").is("back(0)", 0)
            .row("count(#)", 3, 1, 1, 2, 8, 9).is("torn()", INDEX).is("rigs(0)", 9).is("back(0)", 0).is("back(1)", 1).is("fault()", 0);
        Run.late("bridge 0 1;one 0 1;").does("keep(0)").is("back(0)", 999).is("minute(0)", Run.FULL);
    }

    @Says(promise = 29, value = "BAD; STATE: there is none.")
    private static void backRefused() {
        Run r = Run.told(TOWN).does("minute(1)").row("back(#)", STATE, STATE, BAD).are(BAD, "back(-1)", "back(MIN)", "back(MAX)", "back(NONE)");
        r.is("rule(5)", 1).is("one(0, 0)", 1).is("bridge(1, 3)", 1).does("keep(1)").row("back(#)", STATE, 1, BAD).taken(TOWN, 9).row("back(#)", STATE, STATE, BAD);
        Run.told(TOWN).does("keep(0)").row("back(#)", 0, STATE, BAD).faulty("law", 2, 3).row("back(#)", 0, STATE, BAD);
    }

    // ---- 30 sheet

    @Says(promise = 0, value = "SHEETS 0 to 3 are rows of BYTES (lane 0), SHORTS (1), INTS (2) with 0 to 40 CELLS, or nothing (at first).")
    private static void sheets() {
        for (int k = 0; k < 4; k++) {
            for (int lane = 0; lane < 3; lane++) {
                for (int n : new int[] {0, 1, 39, 40}) {
                    Run r = new Run().is("lay(" + k + ", 0, 0)", -10 - NULL).is("sheet(" + k + ", " + lane + ", " + n + ")", 1);
                    r.is("lay(" + k + ", " + n + ", 1)", -10 - INDEX).is("lay(" + k + ", -1, 1)", -10 - INDEX);
                    if (n > 0) r.is("lay(" + k + ", " + (n - 1) + ", 1)", 1).is("lay(" + k + ", 0, 1)", 1);
                    r.is("read(" + k + ", " + lane + ", " + n + ", 1)", 0).is("torn()", INDEX).is("read(" + k + ", " + (lane + 1) % 3 + ", 0, 1)", 0).is("torn()", CAST);
                    for (int other = 0; other < 4; other++) if (other != k) r.is("lay(" + other + ", 0, 0)", -10 - NULL);
                    r.is("count(5)", k == 0 ? n : NONE);
                }
            }
        }
    }

    @Says(promise = 30, value = "A SHEET is a new row of CELLS 0: 1.")
    private static void newRow() {
        Run r = Run.told("bridge 0 1;one 0 1;").is("sheet(0, 2, 40)", 1);
        for (int i = 0; i < 40; i++) r.is("lay(0, " + i + ", 9)", 1);
        r.is("read(0, 2, 0, 1)", -20).is("sheet(0, 2, 40)", 1).is("read(0, 2, 0, 20)", 20).is("read(0, 2, 20, 20)", 20).is("rule(5)", 40).is("one(0, 0)", 0);
        r.is("sheet(0, 0, 2)", 1).is("count(5)", 2).is("lay(0, 2, 1)", -10 - INDEX).is("read(0, 2, 0, 1)", 0).is("torn()", CAST).is("lay(0, 1, 1)", 1).is("sheet(0, 1, 3)", 1)
            .is("read(0, 1, 0, 4)", 3).is("torn()", INDEX).is("one(0, 0)", 0);
    }

    @Says(promise = 30, value = "BAD: also n above 40; -10 - 4.")
    private static void sheetRefused() {
        new Run().is("sheet(0, 1, 7)", 1).are(BAD, "sheet(0, 0, 41)", "sheet(0, 0, MAX)", "sheet(0, 0, 1000)", "sheet(4, 0, 1)", "sheet(-1, 0, 1)", "sheet(MIN, 0, 1)", "sheet(MAX, 0, 1)", "sheet(0, 3, 1)",
            "sheet(0, -1, 1)", "sheet(0, MIN, 1)", "sheet(0, MAX, 1)", "sheet(4, 0, -1)", "sheet(-1, 0, -1)", "sheet(0, 3, -1)", "sheet(0, -1, -1)", "sheet(0, 3, 41)")
            .are(-14, "sheet(0, 0, -1)", "sheet(0, 2, MIN)", "sheet(3, 1, -40)").is("count(5)", 7).is("lay(0, 6, 1)", 1).is("lay(3, 0, 0)", -10 - NULL).is("read(0, 1, 0, 1)", 1)
            .is("sheet(0, 0, 40)", 1).is("sheet(3, 2, 0)", 1);
    }

    // ---- 31 lay

    /** He crosses bridge 0 if the cell is 1 then, stays if it is 0; any other number is refused. */
    private static void laid(int lane, String v, int cell) {
        Run r = Run.told("bridge 0 1;one 0 1;").does("sheet(1, " + lane + ", 1)").is("lay(1, 0, " + v + ")", 1);
        if (cell == 0 || cell == 1) r.is("read(1, " + lane + ", 0, 1)", 1).is("one(0, 0)", cell);
        else r.is("read(1, " + lane + ", 0, 1)", -20).is("one(0, 0)", 0);
    }

    @Says(promise = 31, value = "CELL i of a SHEET becomes v (its lowest bits): 1.")
    private static void lowestBits() {
        for (String v : new String[] {"0", "256", "-256", "65536", "512", "MIN", "-65536"}) laid(0, v, 0);
        for (String v : new String[] {"1", "257", "-255", "65537", "-65535", "-2147483647"}) laid(0, v, 1);
        for (String v : new String[] {"2", "127", "128", "129", "255", "-1", "MAX", "385"}) laid(0, v, 2);
        for (String v : new String[] {"0", "65536", "-65536", "131072", "MIN"}) laid(1, v, 0);
        for (String v : new String[] {"1", "65537", "-65535", "-2147483647"}) laid(1, v, 1);
        for (String v : new String[] {"256", "257", "32767", "32768", "32769", "65535", "-1", "MAX", "98305"}) laid(1, v, 2);
        laid(2, "0", 0);
        laid(2, "1", 1);
        for (String v : new String[] {"256", "257", "65536", "65537", "-255", "-65535", "-1", "MIN", "-2147483647", "MAX", "536870912"}) laid(2, v, 2);
    }

    @Says(promise = 31, value = "CELL i of a SHEET becomes v")
    private static void cellAlone() {
        Run r = Run.told("bridge 0 1;one 0 1;").does("sheet(0, 0, 40)", "sheet(1, 0, 40)", "sheet(2, 0, 40)");
        r.is("lay(1, 0, 9)", 1).is("lay(1, 39, 9)", 1).is("read(0, 0, 20, 20)", 20).is("read(2, 0, 0, 20)", 20).is("read(1, 0, 1, 20)", 20).is("read(1, 0, 20, 19)", 19)
            .is("read(1, 0, 0, 1)", -20).is("read(1, 0, 39, 1)", -20).is("read(1, 0, 20, 20)", -39).is("lay(1, 39, 1)", 1).is("read(1, 0, 39, 1)", 1).is("one(0, 0)", 1);
    }

    @Says(promise = 31, value = "BAD: k; -10 less the FAULT: NULL, INDEX.")
    private static void layRefused() {
        Run.told("bridge 0 1;one 0 1;").does("sheet(0, 0, 2)", "sheet(1, 1, 40)", "sheet(2, 2, 0)").are(BAD, "lay(4, 0, 1)", "lay(-1, 0, 1)", "lay(MIN, 0, 1)", "lay(MAX, 0, 1)", "lay(NONE, 9, 1)")
            .are(-11, "lay(3, 0, 1)", "lay(3, -1, 1)", "lay(3, 40, 1)", "lay(3, MIN, 1)")
            .are(-12, "lay(0, -1, 1)", "lay(0, 2, 1)", "lay(0, 40, 1)", "lay(0, MIN, 1)", "lay(0, MAX, 1)", "lay(1, 40, 1)", "lay(1, -1, 1)", "lay(2, 0, 1)", "lay(2, -1, 1)", "lay(2, 1, 1)")
            .is("torn()", 0).is("read(0, 0, 0, 2)", 2).is("read(1, 1, 0, 20)", 20).is("read(1, 1, 20, 20)", 20).is("one(0, 0)", 0).is("lay(0, 1, 1)", 1).is("lay(1, 39, 1)", 1);
    }

    // ---- 32 read, 33 torn

    @Says(promise = 32, value = "from CELL f on, one behind another as by minute(): how many went.")
    private static void readAsByMinute() {
        String six = Run.times(6, "bridge 0 1;");
        Run.told(six + THREE_ONES).does("sheet(0, 1, 40)", "lay(0, 38, 438)", "lay(0, 39, 384)").is("read(0, 1, 38, 2)", 2).row("one(#, 0)", 1, 1, 0).is("rule(5)", 2);
        Run.told(six + THREE_ONES).does("sheet(0, 0, 1)", "lay(0, 0, 118)").is("read(0, 0, 0, 1)", 1).row("one(#, 0)", 1, 1, 1).is("torn()", 0);
        Run.told(TOWN).does("sheet(0, 2, 5)", "lay(0, 1, 1)", "lay(0, 3, 2)", "keep(0)").is("read(0, 2, 0, 5)", 5).is("one(0, 0)", 2).is("rule(5)", 5).is("bridge(1, 3)", 0)
            .is("back(0)", 0).is("read(0, 2, 1, 1)", 1).is("bridge(1, 3)", 1).is("one(0, 0)", 1).is("rule(5)", 1);
    }

    @Says(promise = 32, value = "n (0 to 20) MINUTES (their MOVES) are read of a SHEET taken as of a lane")
    private static void readBounds() {
        Run r = new Run().does("sheet(0, 0, 40)");
        for (int n = 0; n <= 20; n++) r.is("read(0, 0, 0, " + n + ")", n);
        r.is("rule(5)", 210).are(BAD, "read(0, 0, 0, 21)", "read(0, 0, 0, -1)", "read(0, 0, 0, MIN)", "read(0, 0, 0, MAX)").is("rule(5)", 210).is("read(0, 0, 20, 20)", 20).is("torn()", 0)
            .is("read(0, 0, 21, 20)", 19).is("torn()", INDEX).is("read(0, 0, 39, 1)", 1).is("torn()", 0).is("read(0, 0, 40, 1)", 0).is("torn()", INDEX);
    }

    @Says(promise = 32, value = "What the machine refuses: those ahead go (its FAULT is asked by torn()).")
    private static void readTorn() {
        Run.told("bridge 0 1;one 0 1;").does("sheet(0, 0, 3)", "sheet(1, 1, 3)", "sheet(2, 2, 0)", "lay(0, 2, 1)").is("read(0, 0, 1, 20)", 2).is("torn()", INDEX).is("one(0, 0)", 1).is("rule(5)", 2)
            .is("read(0, 0, 0, 4)", 3).is("torn()", INDEX).is("one(0, 0)", 0).is("rule(5)", 5)
            .is("read(0, 0, 3, 1)", 0).is("torn()", INDEX).is("read(0, 0, -1, 4)", 0).is("torn()", INDEX).is("read(0, 0, MIN, 20)", 0).is("read(0, 0, MAX, 20)", 0).is("read(0, 0, 2147483630, 20)", 0)
            .is("torn()", INDEX).is("read(2, 2, 0, 1)", 0).is("torn()", INDEX).are(0, "read(0, 1, 0, 3)", "read(0, 2, 0, 3)").is("torn()", CAST).are(0, "read(1, 0, 0, 3)", "read(1, 2, 0, 3)").is("torn()", CAST)
            .are(0, "read(2, 0, 0, 3)", "read(2, 1, -1, 3)").is("torn()", CAST).are(0, "read(3, 0, 0, 3)", "read(3, 1, -1, 3)", "read(3, 2, 0, 20)").is("torn()", NULL).is("rule(5)", 5);
    }

    @Says(promise = 0, value = "A FAULT is what the machine finds: 1 NULL (nothing), 2 INDEX, 3 CAST (another lane), 4 SIZE (below 0).")
    private static void faults() {
        Run r = new Run().is("read(0, 0, 0, 1)", 0).is("torn()", 1).is("sheet(0, 0, -1)", -14).is("torn()", 1).is("sheet(0, 0, 1)", 1).is("read(0, 0, 1, 1)", 0).is("torn()", 2);
        r.is("read(0, 1, 0, 1)", 0).is("torn()", 3).is("read(0, 1, -1, 1)", 0).is("torn()", 3).is("read(1, 1, -1, 1)", 0).is("torn()", 1).is("lay(1, -1, 0)", -11).is("lay(0, -1, 0)", -12);
    }

    @Says(promise = 32, value = "BAD: k, lane, n")
    private static void readBad() {
        Run.told("bridge 0 1;one 0 1;").does("sheet(0, 2, 3)", "read(0, 1, 0, 1)").are(BAD, "read(4, 2, 0, 1)", "read(-1, 2, 0, 1)", "read(MIN, 2, 0, 1)", "read(MAX, 2, 0, 1)", "read(0, 3, 0, 1)",
            "read(0, -1, 0, 1)", "read(0, MIN, 0, 1)", "read(0, MAX, 0, 1)", "read(0, 2, 0, 21)", "read(0, 2, 0, -1)", "read(4, 2, 0, 0)", "read(0, 3, 0, 0)", "read(0, 2, -1, 21)")
            .is("torn()", CAST).is("rule(5)", 0).is("read(0, 2, 0, 0)", 0).is("rule(5)", 0).is("read(3, 2, 0, 1)", 0);
    }

    @Says(promise = 32, value = "-20 less i: MINUTE i is refused by minute() (BAD, FULL), or somebody could not CROSS: then none goes")
    private static void readRefused() {
        for (int i = 0; i < 20; i++) {
            Run.told(TOWN).does("sheet(0, 2, 20)", "lay(0, 0, 1)", "lay(0, " + i + ", 4)").is("read(0, 2, 0, 20)", -20 - i).is("rule(5)", 0).row("one(#, 0)", 0, 2, 1).is("bridge(1, 3)", 0).is("torn()", 0);
            Run.told(TOWN).does("sheet(0, 2, 20)", "shut(2, 3)", "lay(0, " + i + ", 16)", "send(1, 0, 0)").is("read(0, 2, 0, 20)", -20 - i).is("rule(5)", 0).is("bridge(2, 3)", 3);
        }
        Run.told(TOWN).does("sheet(0, 2, 3)", "lay(0, 0, 1)", "lay(0, 1, 2)").is("read(0, 2, 0, 3)", -21).is("one(0, 0)", 0).is("bridge(1, 3)", 0).is("read(0, 2, 0, 1)", 1)
            .is("read(0, 2, 1, 1)", -20).is("one(0, 0)", 1).is("rule(5)", 1);
        for (String v : new String[] {"512", "-1", "4", "32", "256", "MIN", "MAX"}) Run.told(TOWN).does("sheet(0, 2, 2)", "lay(0, 1, " + v + ")").is("read(0, 2, 0, 2)", -21).is("rule(5)", 0);
        Run.late("bridge 0 1;one 0 1;").is("read(3, 0, 0, 1)", -20).is("read(3, 0, 0, 20)", -20).is("rule(5)", 999).is("read(3, 0, 0, 0)", 0);
        Run r = new Run().does("sheet(0, 0, 20)");
        for (int i = 0; i < 49; i++) r.is("read(0, 0, 0, 20)", 20);
        r.is("read(0, 0, 0, 20)", -39).is("rule(5)", 980).is("read(0, 0, 0, 10)", 10).is("read(0, 0, 0, 20)", -29).is("rule(5)", 990).is("read(0, 0, 0, 10)", -29).is("read(0, 0, 0, 9)", 9).is("rule(5)", 999);
    }

    @Says(promise = 32, value = "the first met.")
    private static void readFirstMet() {
        Run.told(TOWN).does("sheet(0, 2, 2)", "lay(0, 1, 9999)").is("read(0, 2, 0, 3)", -21).is("torn()", 0).is("read(0, 2, 2, 3)", 0).is("torn()", INDEX).is("lay(0, 0, 9999)", 1)
            .is("read(0, 2, 0, 3)", -20).is("read(0, 1, 0, 3)", 0).is("torn()", CAST).is("read(0, 2, -1, 3)", 0).is("torn()", INDEX);
        Run.late("one 0 1;").is("read(3, 1, 0, 1)", 0).is("torn()", CAST).is("read(2, 1, 0, 1)", 0).is("torn()", NULL).is("read(3, 0, 20, 1)", 0).is("torn()", INDEX).is("read(3, 0, 19, 2)", -20).is("torn()", INDEX);
    }

    @Says(promise = 33, value = "The FAULT of the latest read() that came to an end; 0.")
    private static void torn() {
        Run.told("bridge 0 1;one 0 1;").is("torn()", 0).does("sheet(0, 2, 2)", "lay(0, 1, 9)").is("read(0, 2, 0, 1)", 1).is("torn()", 0).is("read(0, 2, 2, 1)", 0).is("torn()", INDEX).is("torn()", INDEX)
            .is("read(0, 2, 0, 2)", -21).is("torn()", INDEX).is("read(0, 2, 0, 21)", BAD).is("torn()", INDEX).is("read(0, 0, 0, 1)", 0).is("torn()", CAST).is("read(1, 0, 0, 1)", 0).is("torn()", NULL)
            .does("lay(0, 5, 5)", "sheet(0, 0, -1)", "text()", "minute(0)", "keep(0)", "back(0)").is("torn()", NULL).does("lay(0, 0, 0)").is("read(0, 2, 0, 1)", 1).is("torn()", 0);
    }

    // ---- 34 count

    @Says(promise = 34, value = "0 BRIDGES that are OPEN, 1 PEOPLE at their GOALS, 2 SEEN, 3 IMAGES, 4 bytes on THE TAPE, 5 CELLS of SHEET 0 (NONE: nothing). BAD.")
    private static void count() {
        new Run().row("count(#)", 0, 0, 0, 0, 0, NONE, BAD).are(BAD, "count(-1)", "count(7)", "count(MIN)", "count(MAX)", "count(NONE)");
        Run r = Run.told(Run.times(6, "bridge 0 1;") + "one 0 0;one 1 1;one 0 0;").row("count(#)", 6, 3, 0, 0, 0, NONE, BAD);
        for (int b = 0; b < 6; b++) r.does("shut(" + b + ", " + (1 + b % 3) + ")").is("count(0)", 5 - b);
        r.is("minute(0)", 0).is("count(0)", 2).does("send(1, 0, 1)").is("count(1)", 2).does("send(0, 0, 1)", "send(2, 0, 1)").is("count(1)", 0);
        for (int i = 1; i <= 6; i++) r.does("saw(NONE, 0, true)").is("count(2)", i);
        r.does("saw(NONE, 0, true)").is("count(2)", 6).does("keep(1)").is("count(3)", 1).does("keep(1)").is("count(3)", 1).does("keep(0)").is("count(3)", 2).does("feed(0)").is("count(4)", 8)
            .does("end(3)").is("count(4)", 3).does("sheet(1, 0, 5)").is("count(5)", NONE).does("sheet(0, 0, 0)").is("count(5)", 0).does("sheet(0, 2, 40)").is("count(5)", 40)
            .does("sheet(0, 2, 41)", "sheet(0, 2, -1)").is("count(5)", 40);
    }
}
