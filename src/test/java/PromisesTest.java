/** One method for each promise of the document: ordinary inputs, the edges that it names, wrong inputs. */
public final class PromisesTest {
    private static final int BAD = -1, STATE = -2, FULL = -3, NONE = -4;
    private static int wrong = 0;
    private static int promise = 0;

    private static void due(String call, long got, long want) {
        if (got != want) {
            wrong++;
            System.out.println("promise " + promise + ": " + call + " answered " + got + ", due is " + want);
        }
    }

    private static int feedAll(CrossShuts x, String s) {
        for (int i = 0; i < s.length(); i += 8) {
            long v = 0;
            for (int j = 0; j < 8; j++) v = v << 8 | (i + j < s.length() ? s.charAt(i + j) & 255 : ' ');
            x.feed(v);
        }
        return x.end(s.length());
    }

    private static int tell(CrossShuts x, String s) {
        feedAll(x, s);
        return x.text();
    }

    private static CrossShuts told(String s) {
        CrossShuts x = new CrossShuts();
        int lines = tell(x, s);
        if (lines < 0) due("text() of " + s, lines, 0);
        return x;
    }

    private static void faulty(String s, int which, int place) {
        CrossShuts x = told("places 3;one 2 1;");
        due("text() of '" + s + "'", tell(x, s), -10 - place);
        due("fault() of '" + s + "'", x.fault(), which);
        due("PLACES stay behind '" + s + "'", x.rule(0), 3);
        due("PEOPLE stay behind '" + s + "'", x.one(0, 0), 2);
        due("THE TAPE behind '" + s + "'", x.count(4), 0);
    }

    private static void promise1() {
        CrossShuts x = new CrossShuts();
        int[] rules = {2, 0, 0, 0, 2, 0};
        for (int i = 0; i < rules.length; i++) due("rule(" + i + ")", x.rule(i), rules[i]);
        int[] counts = {0, 0, 0, 0, 0, NONE};
        for (int i = 0; i < counts.length; i++) due("count(" + i + ")", x.count(i), counts[i]);
        due("fault()", x.fault(), 0);
        due("torn()", x.torn(), 0);
        for (int k = 0; k < 4; k++) due("lay: a sheet has nothing", x.lay(k, 0, 1), -11);
        due("back(0)", x.back(0), STATE);
        due("back(1)", x.back(1), STATE);
    }

    private static void promise2() {
        CrossShuts x = new CrossShuts();
        for (int i = 1; i <= 40; i++) due("feed " + i, x.feed(-1L), 8 * i);
        due("feed 41", x.feed(0), FULL);
        due("count(4)", x.count(4), 320);
        due("end(313)", x.end(313), 320);
        due("feed of 8 to 313", x.feed(0), FULL);
        due("end(312)", x.end(312), 313);
        due("feed of 8 to 312", x.feed(0), 320);
        CrossShuts y = new CrossShuts();
        y.feed(0x6c61772032_3b2020L); // "law 2;  ": the highest byte comes first
        due("text()", y.text(), 1);
        due("rule(3)", y.rule(3), 2);
    }

    private static void promise3() {
        CrossShuts x = new CrossShuts();
        due("end(0) of nothing", x.end(0), 0);
        due("end(1) of nothing", x.end(1), BAD);
        feedAll(x, "law 1;law 2;");
        due("end(-1)", x.end(-1), BAD);
        due("end(13)", x.end(13), BAD);
        due("end(12)", x.end(12), 12);
        due("end(6)", x.end(6), 12);
        due("text()", x.text(), 1);
        due("rule(3)", x.rule(3), 1);
        feedAll(x, "law 12;");
        x.end(5);
        due("what was cut is not read", x.text(), -15);
        feedAll(x, "one 0 1;ones");
        x.end(11);
        due("what was cut is not read", x.text(), -21);
        due("end(MAX)", x.end(Integer.MAX_VALUE), BAD);
        due("end(MIN)", x.end(Integer.MIN_VALUE), BAD);
    }

    private static void promise4() {
        CrossShuts x = told("places 3;hold 1;law 1;bridge 0 1;chain 0 1;bridge 1 2;shut 1 2;one 0 2;");
        x.minute(0);
        x.saw(0, 1, false);
        x.keep(0);
        x.keep(1);
        due("empty text", x.text(), 0);
        int[] rules = {2, 0, 0, 0, 2, 0};
        for (int i = 0; i < rules.length; i++) due("rule(" + i + ") behind an empty text", x.rule(i), rules[i]);
        due("SEEN behind a text", x.count(2), 0);
        due("IMAGES behind a text", x.count(3), 0);
        due("blanks alone", tell(x, "     "), 0);
        due("tokens that touch, blanks of many", tell(x, "  places4;bridge00 03   ;   one 3 0 ;"), 3);
        due("its PLACES", x.rule(0), 4);
        due("its BRIDGE", x.bridge(0, 1), 3);
        due("places behind what needs them", tell(x, "one 4 4;bridge 4 3;places 5;"), 3);
        due("a chain ahead of its bridges", tell(x, "chain 0 1;shut 1 3;bridge 0 1;bridge 1 0;"), 4);
        due("it hangs", x.bridge(0, 2), 1);
        due("it is shut", x.bridge(1, 3), 3);
        CrossShuts y = new CrossShuts();
        y.sheet(0, 1, 7);
        tell(y, "places 5;");
        due("SHEETS stay behind a text", y.count(5), 7);
        CrossShuts z = told("bridge 0 1;one 0 1;");
        z.minute(1);
        z.saw(0, 0, true);
        z.keep(1);
        due("a text of a fault", tell(z, "one 0 1"), -17);
        due("THE MINUTE stays", z.rule(5), 1);
        due("SEEN stay", z.count(2), 1);
        due("IMAGES stay", z.count(3), 1);
        StringBuilder most = new StringBuilder();
        for (int i = 0; i < 6; i++) most.append("bridge 0 1;");
        for (int i = 0; i < 3; i++) most.append("one 0 1;");
        while (most.length() < 320) most.append(' ');
        due("a full tape", tell(z, most.toString()), 9);
    }

    private static void promise5() {
        faulty("law 1 !", 1, 6);
        faulty("Law 1;", 1, 0);
        faulty("law 100;", 1, 4);
        faulty("law 1;123", 1, 6);
        faulty("law 1;" + (char) 0, 1, 6);
        faulty("law 1;" + (char) 200, 1, 6);
        faulty("law\t1;", 1, 3);
        faulty("laws 1;", 2, 0);
        faulty("law;", 2, 3);
        faulty("raw 1;", 2, 0);
        faulty("zoo 1;", 2, 0);
        faulty("lawz 1;", 2, 0);
        faulty("lawabcdefghlaw 1;", 2, 0);
        faulty("law one;", 2, 4);
        faulty("1;", 2, 0);
        faulty(";", 2, 0);
        faulty("law 1;;", 2, 6);
        faulty("law 1", 2, 5);
        faulty("law 1   ", 2, 8);
        faulty("law", 2, 3);
        faulty("bridge 0 1 2;", 2, 11);
        faulty("bridge 0;", 2, 8);
        faulty("law 1 hold", 2, 6);
        faulty("places 1;", 3, 7);
        faulty("places 06;", 3, 7);
        faulty("hold 0;", 3, 5);
        faulty("hold 4;", 3, 5);
        faulty("law 3;", 3, 4);
        faulty("law 99;", 3, 4);
        faulty("bridge 5 5;", 3, 7);
        faulty("bridge 0 5;", 3, 9);
        faulty("chain 6 6;", 3, 6);
        faulty("chain 0 6;", 3, 8);
        faulty("shut 6 1;", 3, 5);
        faulty("shut 0 0;", 3, 7);
        faulty("shut 0 4;", 3, 7);
        faulty("one 5 0;", 3, 4);
        faulty("one 0 5;", 3, 6);
        faulty("places 2;places 9;", 4, 9);
        faulty("hold 2;hold;", 4, 7);
        faulty("law 0;law 0;", 4, 6);
        faulty("bridge 1 01;", 4, 9);
        faulty("chain 5 5;", 4, 8);
        faulty("chain 0 1;chain 0 100;", 4, 16);
        faulty("shut 3 1;shut 3 x;", 4, 14);
        StringBuilder seven = new StringBuilder();
        for (int i = 0; i < 6; i++) seven.append("bridge 0 1;");
        faulty(seven + "bridge !", 5, 66);
        faulty("one 0 0;one 0 0;one 0 0;one", 5, 24);
        faulty("bridge 0 2;", 6, 11);
        faulty("one 0 2; ", 6, 9);
        faulty("one 2 0;", 6, 8);
        faulty("places 4;bridge 4 0;", 6, 20);
        faulty("bridge 0 1;chain 0 1;", 6, 21);
        faulty("bridge 0 1;chain 1 0;", 6, 21);
        faulty("bridge 0 1;shut 1 1;", 6, 20);
        faulty("bridge 0 4;law 3;", 3, 15);
        CrossShuts x = told("law 1;");
        due("fault() of a text that is taken", x.fault(), 0);
        tell(x, "law");
        due("fault()", x.fault(), 2);
        due("fault() again", x.fault(), 2);
        x.text();
        due("fault() behind an empty text", x.fault(), 0);
    }

    private static void promise6() {
        CrossShuts x = told("places 5;hold 3;law 2;bridge 0 4;bridge 4 1;one 2 2;");
        x.minute(0);
        int[] rules = {5, 2, 1, 2, 3, 1};
        for (int i = 0; i < rules.length; i++) due("rule(" + i + ")", x.rule(i), rules[i]);
        due("rule(-1)", x.rule(-1), BAD);
        due("rule(6)", x.rule(6), BAD);
    }

    private static void promise7() {
        CrossShuts x = told("places 3;bridge 2 1;bridge 0 2;chain 1 0;shut 0 3;");
        due("first", x.bridge(0, 0), 2);
        due("second", x.bridge(0, 1), 1);
        due("none hangs", x.bridge(0, 2), NONE);
        due("which hangs", x.bridge(1, 2), 0);
        due("REST", x.bridge(0, 3), 3);
        due("REST of an open one", x.bridge(1, 3), 0);
        due("bridge(2, 0)", x.bridge(2, 0), BAD);
        due("bridge(-1, 0)", x.bridge(-1, 0), BAD);
        due("bridge(0, 4)", x.bridge(0, 4), BAD);
        due("bridge(0, -1)", x.bridge(0, -1), BAD);
        due("bridge(0, 0) of a new one", new CrossShuts().bridge(0, 0), BAD);
    }

    private static void promise8() {
        CrossShuts x = told("places 3;bridge 2 1;bridge 0 2;bridge 2 0;bridge 0 1;shut 1 1;one 2 1;one 0 0;");
        due("place", x.one(0, 0), 2);
        due("goal", x.one(0, 1), 1);
        due("can cross", x.one(0, 2), 1 | 4);
        due("can cross", x.one(1, 2), 4 | 8);
        x.minute(0);
        due("can cross a minute on", x.one(0, 2), 7);
        due("one(2, 0)", x.one(2, 0), BAD);
        due("one(-1, 0)", x.one(-1, 0), BAD);
        due("one(0, 3)", x.one(0, 3), BAD);
        due("one(0, -1)", x.one(0, -1), BAD);
    }

    private static void promise9() {
        CrossShuts x = new CrossShuts();
        due("law(2)", x.law(2), 0);
        due("law(3)", x.law(3), BAD);
        due("law(-1)", x.law(-1), BAD);
        due("law(1)", x.law(1), 2);
        due("law(0)", x.law(0), 1);
        String text = "bridge 0 1;bridge 0 1;bridge 0 1;chain 1 0;one 0 1;";
        int[][] rests = {{2, 0, 0}, {0, 2, 0}, {2, 0, 2}};
        for (int law = 0; law < 3; law++) {
            CrossShuts y = told(text);
            y.law(law);
            y.shut(0, 0);
            y.minute(2);
            for (int b = 0; b < 3; b++) due("REST " + b + " by LAW " + law, y.bridge(b, 3), rests[law][b]);
        }
        CrossShuts z = told("law 2;bridge 0 1;bridge 0 1;bridge 0 1;bridge 0 1;one 0 1;one 0 1;");
        z.minute(1 + 8 * 4);
        int[] edges = {0, 2, 2, 0};
        for (int b = 0; b < 4; b++) due("REST " + b + " by LAW 2 at the ends", z.bridge(b, 3), edges[b]);
        CrossShuts o = told("law 1;bridge 0 1;bridge 0 1;chain 0 1;shut 1 3;one 0 1;one 0 1;");
        due("LAW 1 opens at once", o.minute(1 + 8 * 2), 0);
        due("it is shut then", o.bridge(1, 3), 2);
        CrossShuts q = told("law 1;bridge 0 1;bridge 0 1;chain 1 0;one 0 1;one 0 1;");
        due("shut by one, opened by the next", q.minute(1 + 8 * 2), 0);
        due("it is open", q.bridge(0, 3), 0);
    }

    private static void promise10() {
        CrossShuts x = new CrossShuts();
        due("hold(0)", x.hold(0), BAD);
        due("hold(4)", x.hold(4), BAD);
        due("hold(3)", x.hold(3), 2);
        due("hold(1)", x.hold(1), 3);
        due("rule(4)", x.rule(4), 1);
        for (int hold = 1; hold <= 3; hold++) {
            CrossShuts y = told("bridge 0 1;bridge 0 1;chain 0 1;shut 1 3;one 0 1;");
            y.hold(hold);
            y.minute(1);
            due("REST is HOLD, even if it was more", y.bridge(1, 3), hold);
            for (int i = 0; i < hold; i++) {
                due("shut for HOLD minutes behind", y.one(0, 2), 1);
                y.minute(0);
            }
            due("open then", y.one(0, 2), 3);
        }
    }

    private static void promise11() {
        CrossShuts x = told("bridge 0 1;bridge 0 1;bridge 0 1;chain 0 1;");
        due("chain(0, 2)", x.chain(0, 2), 1);
        due("chain(0, NONE)", x.chain(0, NONE), 2);
        due("chain(0, 1)", x.chain(0, 1), NONE);
        due("chain(0, 0)", x.chain(0, 0), BAD);
        due("chain(0, 3)", x.chain(0, 3), BAD);
        due("chain(0, -1)", x.chain(0, -1), BAD);
        due("chain(3, 0)", x.chain(3, 0), BAD);
        due("chain(-1, 0)", x.chain(-1, 0), BAD);
        due("chain(NONE, NONE)", x.chain(NONE, NONE), BAD);
        due("bridge(0, 2)", x.bridge(0, 2), 1);
        due("two may hang one", x.chain(2, 1), NONE);
    }

    private static void promise12() {
        CrossShuts x = told("bridge 0 1;shut 0 1;");
        due("shut(0, 3)", x.shut(0, 3), 1);
        due("shut(0, 0)", x.shut(0, 0), 3);
        due("shut(0, 4)", x.shut(0, 4), BAD);
        due("shut(0, -1)", x.shut(0, -1), BAD);
        due("shut(1, 0)", x.shut(1, 0), BAD);
        due("shut(-1, 0)", x.shut(-1, 0), BAD);
        due("bridge(0, 3)", x.bridge(0, 3), 0);
    }

    private static void promise13() {
        CrossShuts x = told("places 3;one 0 1;");
        due("send(0, 2, 2)", x.send(0, 2, 2), 0);
        due("send(0, 3, 0)", x.send(0, 3, 0), BAD);
        due("send(0, 0, 3)", x.send(0, 0, 3), BAD);
        due("send(0, -1, 0)", x.send(0, -1, 0), BAD);
        due("send(0, 0, -1)", x.send(0, 0, -1), BAD);
        due("send(1, 0, 0)", x.send(1, 0, 0), BAD);
        due("send(-1, 0, 0)", x.send(-1, 0, 0), BAD);
        due("send(0, 1, 0)", x.send(0, 1, 0), 2);
        due("goal", x.one(0, 1), 0);
    }

    private static void promise14() {
        CrossShuts x = told("places 3;bridge 0 1;bridge 1 2;chain 0 1;one 0 2;one 1 2;one 2 0;");
        due("a cross that shuts what the next one wants", x.minute(1 + 8 * 2), 2);
        due("he who crossed", x.one(0, 0), 1);
        due("he who stayed", x.one(1, 0), 1);
        due("REST", x.bridge(1, 3), 2);
        due("a bridge of elsewhere", x.minute(64 * 1), 4);
        due("all stuck", x.minute(2 + 8 * 2 + 64 * 2), 7);
        due("THE MINUTE", x.rule(5), 3);
        due("open again", x.minute(2 + 8 * 2 + 64 * 2), 0);
        due("a figure above BRIDGES", x.minute(3), BAD);
        due("a figure above BRIDGES", x.minute(64 * 7), BAD);
        due("of no ONE", x.minute(512), BAD);
        due("below 0", x.minute(-1), BAD);
        due("MIN", x.minute(Integer.MIN_VALUE), BAD);
        due("MAX", x.minute(Integer.MAX_VALUE), BAD);
        due("THE MINUTE", x.rule(5), 4);
        CrossShuts y = new CrossShuts();
        due("nobody", y.minute(0), 0);
        due("nobody moves", y.minute(1), BAD);
        y.sheet(0, 0, 40);
        for (int i = 0; i < 49; i++) due("read", y.read(0, 0, 0, 20), 20);
        for (int i = 0; i < 18; i++) due("minute", y.minute(0), 0);
        due("THE MINUTE", y.rule(5), 999);
        due("the 1000th", y.minute(0), FULL);
        due("the 1000th, BAD first", y.minute(1), BAD);
        due("THE MINUTE", y.rule(5), 999);
    }

    private static void promise15() {
        CrossShuts x = told("places 4;hold 2;bridge 0 1;bridge 1 2;bridge 2 3;chain 0 1;one 0 2;one 0 0;one 0 3;");
        due("across, wait for two, across", x.way(0, 0), 4);
        int[] moves = {1, 0, 0, 2};
        for (int i = 0; i < 4; i++) due("way(0, " + (10 + i) + ")", x.way(0, 10 + i), moves[i]);
        due("not so many", x.way(0, 14), NONE);
        due("not so many", x.way(0, Integer.MAX_VALUE), NONE);
        due("there already", x.way(1, 0), 0);
        due("there already", x.way(1, 10), NONE);
        due("way(3, 0)", x.way(3, 0), BAD);
        due("way(-1, 0)", x.way(-1, 0), BAD);
        for (int what : new int[] {-1, 1, 9, Integer.MIN_VALUE}) due("way(0, " + what + ")", x.way(0, what), BAD);
        x.chain(0, NONE);
        due("unchained", x.way(0, 0), 2);
        CrossShuts y = told("places 3;bridge 0 1;one 0 2;");
        due("no way", y.way(0, 0), NONE);
        due("no way", y.way(0, 10), NONE);
        CrossShuts z = told("bridge 0 1;bridge 1 0;shut 0 2;shut 1 2;one 0 1;");
        due("wait till it is open", z.way(0, 0), 3);
        due("the first by MOVES", z.way(0, 12), 1);
        due("nothing is changed", z.rule(5) + z.bridge(0, 3), 2);
        for (int b = 0; b < 6; b++) {
            StringBuilder six = new StringBuilder("places 4;one 0 1;shut " + b + " 3;");
            for (int c = 0; c < 6; c++) six.append(c == b ? "bridge 0 1;" : "bridge 2 3;");
            due("three to wait, one to cross " + b, told(six.toString()).way(0, 0), 4);
        }
    }

    private static void promise16() {
        CrossShuts x = told("places 5;bridge 0 1;bridge 1 2;bridge 3 4;chain 0 1;one 0 0;one 4 0;");
        due("can(0)", x.can(0), 7);
        due("can(1)", x.can(1), 24);
        due("can(2)", x.can(2), BAD);
        due("can(-1)", x.can(-1), BAD);
        due("alone, no bridges", told("places 3;one 2 0;").can(0), 4);
    }

    private static void promise17() {
        CrossShuts x = told("hold 2;bridge 0 1;bridge 0 1;chain 0 1;chain 1 0;one 0 1;one 0 1;one 1 1;");
        due("one shuts the other's", x.both(0, 1, 0), 1);
        due("by the same bridge", x.both(0, 1, 10), 9);
        due("by numbers", x.both(1, 0, 10), 9);
        due("not so many", x.both(0, 1, 11), NONE);
        CrossShuts y = told("places 3;bridge 0 1;bridge 2 1;chain 0 1;one 0 1;one 2 1;one 2 2;");
        due("the earlier one waits not", y.both(0, 1, 0), 2);
        due("the later one first", y.both(0, 1, 10), 16);
        due("then the earlier one", y.both(0, 1, 11), 1);
        due("alike", y.both(0, 0, 0), BAD);
        due("no such", y.both(0, 3, 0), BAD);
        due("no such", y.both(-1, 0, 0), BAD);
        due("what", y.both(0, 1, 1), BAD);
        due("what", y.both(0, 1, -10), BAD);
        y.send(0, 1, 1);
        y.send(1, 1, 1);
        due("both there", y.both(0, 1, 0), 0);
        due("both there", y.both(0, 1, 10), NONE);
        due("no way", told("places 3;bridge 0 1;one 0 1;one 0 2;").both(0, 1, 0), NONE);
    }

    private static void promise18() {
        due("none", new CrossShuts().rings(), 0);
        due("two, and one that leads to them", told("bridge 0 1;bridge 0 1;bridge 0 1;chain 0 1;chain 1 0;chain 2 0;").rings(), 3);
        due("a chain with an end", told("bridge 0 1;bridge 0 1;bridge 0 1;chain 0 1;chain 1 2;").rings(), 0);
        due("six round, two by two", told("bridge 0 1;bridge 0 1;bridge 0 1;bridge 0 1;bridge 0 1;bridge 0 1;"
            + "chain 0 5;chain 5 0;chain 1 3;chain 3 4;chain 4 1;chain 2 1;").rings(), 1 | 2 | 8 | 16 | 32);
    }

    private static void promise19() {
        CrossShuts x = told("hold 1;bridge 0 1;bridge 0 1;chain 0 1;one 0 1;");
        due("each minute anew", x.guard(0, 1, 6, 0), 6);
        due("its moves", x.guard(0, 1, 6, 15), 1);
        due("not so many", x.guard(0, 1, 6, 16), NONE);
        due("it can not be", x.guard(0, 0, 1, 0), NONE);
        due("it can not be", x.guard(0, 0, 1, 10), NONE);
        x.hold(3);
        due("by HOLD 3", x.guard(0, 1, 6, 0), 2);
        int[] row = {1, 0, 0, 1, 0, 0};
        for (int i = 0; i < 6; i++) due("row " + i, x.guard(0, 1, 6, 10 + i), row[i]);
        x.shut(1, 3);
        due("shut still", x.guard(0, 1, 2, 0), 0);
        due("shut still", x.guard(0, 1, 2, 11), 0);
        due("REST 3 is 0 behind the third", x.guard(0, 1, 3, 0), 1);
        due("as late as may be", x.guard(0, 1, 3, 10), 0);
        due("as late as may be", x.guard(0, 1, 3, 12), 1);
        due("n 0", x.guard(0, 1, 0, 0), BAD);
        due("n 7", x.guard(0, 1, 7, 0), BAD);
        due("p", x.guard(1, 1, 1, 0), BAD);
        due("b", x.guard(0, 2, 1, 0), BAD);
        due("what", x.guard(0, 1, 1, 5), BAD);
    }

    private static void promise20() {
        CrossShuts x = told("places 3;bridge 0 1;bridge 1 2;bridge 2 1;chain 2 1;one 0 2;one 2 0;one 1 1;");
        due("in one it can not be", x.game(0, 1, 1, 0), NONE);
        due("in none", x.game(0, 1, 0, 0), NONE);
        due("he takes the other bridge", x.game(0, 1, 3, 0), 2);
        due("his first move", x.game(0, 1, 2, 1), 1);
        due("there already", x.game(2, 1, 0, 0), 0);
        due("he has won", x.game(2, 1, 3, 1), NONE);
        due("alike", x.game(0, 0, 1, 0), BAD);
        due("n", x.game(0, 1, 4, 0), BAD);
        due("n", x.game(0, 1, -1, 0), BAD);
        due("what", x.game(0, 1, 1, 2), BAD);
        due("p", x.game(3, 1, 1, 0), BAD);
        due("q", x.game(0, 3, 1, 0), BAD);
        CrossShuts y = told("places 3;bridge 0 1;bridge 1 2;bridge 1 0;chain 2 1;one 0 2;one 1 0;");
        due("hindered: the bridge ahead is shut behind his move", y.game(0, 1, 3, 0), NONE);
        due("no first move", y.game(0, 1, 3, 1), NONE);
        due("he wins ahead of the reply", told("bridge 0 1;bridge 0 1;chain 1 0;one 0 1;one 0 1;").game(1, 0, 1, 0), 1);
    }

    private static void promise21() {
        CrossShuts x = told("places 3;bridge 0 1;bridge 1 2;chain 0 1;one 0 2;one 1 1;");
        due("unchain 0", x.relay(0, 0), 6);
        due("two minutes then", x.relay(0, 1), 2);
        due("it is not laid", x.bridge(0, 2), 1);
        due("there already", x.relay(1, 0), NONE);
        due("there already", x.relay(1, 1), NONE);
        x.chain(0, NONE);
        due("no sooner", x.relay(0, 0), NONE);
        due("p", x.relay(2, 0), BAD);
        due("what", x.relay(0, 2), BAD);
        due("what", x.relay(0, -1), BAD);
        CrossShuts y = told("places 3;law 1;bridge 0 1;bridge 0 1;bridge 1 2;shut 2 3;one 0 2;");
        due("by LAW 1 a chain opens", y.relay(0, 0), 2);
        due("two minutes then", y.relay(0, 1), 2);
        CrossShuts z = told("places 3;law 1;bridge 1 2;bridge 0 1;shut 0 3;one 0 2;");
        due("0 is hung on 1", z.relay(0, 0), 10);
    }

    private static void promise22() {
        CrossShuts x = told("places 3;bridge 0 1;bridge 0 2;bridge 0 1;one 0 1;one 1 1;");
        due("two of three", x.chance(0, 1, 0), 2);
        due("two of three", x.chance(0, 1, 1), 3);
        due("or by way of 2", x.chance(0, 3, 0), 8);
        due("or by way of 2", x.chance(0, 3, 1), 9);
        due("0 by 1", x.chance(0, 0, 0), 0);
        due("0 by 1", x.chance(0, 0, 1), 1);
        due("there already", x.chance(1, 0, 0), 1);
        due("there already", x.chance(1, 5, 1), 1);
        x.shut(0, 1);
        due("shut ones count", x.chance(0, 1, 0), 1);
        due("shut ones count", x.chance(0, 1, 1), 3);
        due("n", x.chance(0, 6, 0), BAD);
        due("n", x.chance(0, -1, 0), BAD);
        due("p", x.chance(2, 0, 0), BAD);
        due("what", x.chance(0, 1, 2), BAD);
        due("none there", told("one 0 1;").chance(0, 5, 0), 0);
        due("none there", told("one 0 1;").chance(0, 5, 1), 1);
    }

    private static void promise23() {
        CrossShuts x = told("bridge 0 1;bridge 0 1;");
        due("crossed", x.saw(2, 0, true), BAD);
        due("crossed", x.saw(-1, 0, true), BAD);
        due("looked", x.saw(0, 2, true), BAD);
        due("looked", x.saw(0, NONE, true), BAD);
        for (int i = 1; i <= 6; i++) due("saw " + i, x.saw(i % 2 == 0 ? NONE : 0, 1, false), i);
        due("the 7th", x.saw(0, 0, true), FULL);
        due("the 7th, BAD first", x.saw(0, 5, true), BAD);
        due("count(2)", x.count(2), 6);
    }

    private static void promise24() {
        CrossShuts x = told("bridge 0 1;bridge 0 1;");
        due("forget(1) of none", x.forget(1), BAD);
        due("forget(0) of none", x.forget(0), 0);
        x.saw(0, 1, true);
        x.saw(0, 1, false);
        due("they do not agree", x.rigs(0), 0);
        due("forget(3)", x.forget(3), BAD);
        due("forget(-1)", x.forget(-1), BAD);
        due("forget(1)", x.forget(1), 2);
        due("the first stays", x.rigs(0), 2);
        due("forget(1)", x.forget(1), 1);
    }

    private static void promise25() {
        due("no bridges: one rig", new CrossShuts().rigs(0), 1);
        due("no bridges", new CrossShuts().rigs(10), BAD);
        CrossShuts one = told("bridge 0 1;");
        due("one bridge: one rig", one.rigs(0), 1);
        due("one bridge: none hangs", one.rigs(10), NONE);
        CrossShuts x = told("hold 1;law 2;bridge 0 1;bridge 0 1;bridge 0 1;");
        due("all", x.rigs(0), 27);
        int[] first = {1, 0, 0};
        for (int b = 0; b < 3; b++) due("first rig at " + b, x.rigs(10 + b), first[b]);
        x.saw(0, 1, true);
        due("not 1 on 0", x.rigs(0), 18);
        due("first rig at 0", x.rigs(10), 2);
        x.saw(0, 2, true);
        due("none on 0", x.rigs(0), 9);
        due("none on 0", x.rigs(10), NONE);
        due("first rig at 1", x.rigs(11), 0);
        x.forget(0);
        x.saw(0, 0, true);
        x.saw(1, 1, true);
        due("1 was open: not 1 on 0", x.rigs(0), 18);
        x.hold(3);
        due("by HOLD alike", x.rigs(0), 18);
        x.saw(1, 2, false);
        due("2 shut by 0 or by 1", x.rigs(0), 12);
        due("what", x.rigs(1), BAD);
        due("what", x.rigs(-1), BAD);
        due("what", x.rigs(13), BAD);
        x.forget(0);
        x.saw(0, 0, false);
        due("none fits", x.rigs(0), 0);
        due("none fits", x.rigs(10), NONE);
        due("none fits, no such bridge", x.rigs(13), BAD);
    }

    private static void promise26() {
        CrossShuts x = told("bridge 0 1;bridge 0 1;bridge 0 1;");
        due("all", x.hangs(1), 64 | 1 | 4);
        x.saw(1, 0, true);
        due("not 0", x.hangs(1), 64 | 4);
        due("the others as ever", x.hangs(0), 64 | 2 | 4);
        x.saw(NONE, 2, false);
        due("2 alone", x.hangs(1), 4);
        x.saw(NONE, 2, false);
        due("none fits", x.hangs(1), 0);
        due("none fits", x.hangs(0), 0);
        due("hangs(3)", x.hangs(3), BAD);
        due("hangs(-1)", x.hangs(-1), BAD);
    }

    private static void promise27() {
        due("no bridges", new CrossShuts().look(0), NONE);
        CrossShuts one = told("bridge 0 1;");
        due("one bridge: nothing to learn", one.look(0), NONE);
        due("one bridge: nothing to learn", one.look(1), NONE);
        CrossShuts x = told("hold 1;bridge 0 1;bridge 0 1;");
        due("cross 0, look at 1", x.look(0), 1);
        due("two of four", x.look(1), 2);
        x.saw(0, 1, false);
        due("1 is shut: to cross it rules all out", x.look(0), 10);
        due("none left", x.look(1), 0);
        x.saw(NONE, 1, true);
        due("cross 1, look at 0", x.look(0), 10);
        due("one of two", x.look(1), 1);
        due("what", x.look(2), BAD);
        due("what", x.look(-1), BAD);
        x.forget(0);
        x.saw(NONE, 0, false);
        due("there are none", x.look(0), NONE);
        due("there are none", x.look(1), NONE);
        CrossShuts y = told("hold 2;bridge 0 1;bridge 0 1;bridge 0 1;");
        y.saw(0, 0, true);
        due("none crossed is looked at by 6", y.look(0), 10);
    }

    private static void promise28() {
        CrossShuts x = told("bridge 0 1;bridge 0 1;one 0 1;");
        due("keep(2)", x.keep(2), BAD);
        due("keep(-1)", x.keep(-1), BAD);
        due("keep(0)", x.keep(0), 0);
        due("keep(0)", x.keep(0), 1);
        due("keep(1)", x.keep(1), 0);
        due("count(3)", x.count(3), 2);
        tell(x, "");
        due("gone", x.keep(0), 0);
    }

    private static void promise29() {
        CrossShuts x = told("places 3;bridge 0 1;bridge 0 1;chain 0 1;one 0 1;");
        x.minute(1);
        x.keep(1);
        due("none", x.back(0), STATE);
        due("back(2)", x.back(2), BAD);
        due("back(-1)", x.back(-1), BAD);
        x.law(2);
        x.hold(3);
        x.chain(0, NONE);
        x.chain(1, 0);
        x.shut(0, 3);
        x.send(0, 2, 2);
        x.minute(0);
        x.saw(0, 1, true);
        due("back(1)", x.back(1), 1);
        due("LAW", x.rule(3), 0);
        due("HOLD", x.rule(4), 2);
        due("THE MINUTE", x.rule(5), 1);
        due("chain 0", x.bridge(0, 2), 1);
        due("chain 1", x.bridge(1, 2), NONE);
        due("REST 0", x.bridge(0, 3), 0);
        due("REST 1", x.bridge(1, 3), 2);
        due("PLACE", x.one(0, 0), 1);
        due("GOAL", x.one(0, 1), 1);
        due("SEEN stay", x.count(2), 1);
        x.minute(0);
        due("the image stays", x.back(1), 1);
        due("REST 1", x.bridge(1, 3), 2);
    }

    private static void promise30() {
        CrossShuts x = new CrossShuts();
        due("sheet(0, 0, 0)", x.sheet(0, 0, 0), 1);
        due("no CELLS", x.count(5), 0);
        due("sheet(0, 2, 40)", x.sheet(0, 2, 40), 1);
        due("sheet(0, 2, 41)", x.sheet(0, 2, 41), BAD);
        due("sheet(0, 2, -1)", x.sheet(0, 2, -1), -14);
        due("sheet(0, 2, MIN)", x.sheet(0, 2, Integer.MIN_VALUE), -14);
        due("sheet(4, 2, -1)", x.sheet(4, 2, -1), BAD);
        due("sheet(-1, 2, 1)", x.sheet(-1, 2, 1), BAD);
        due("sheet(0, 3, -1)", x.sheet(0, 3, -1), BAD);
        due("sheet(0, -1, 1)", x.sheet(0, -1, 1), BAD);
        due("it stays", x.count(5), 40);
        x.lay(0, 0, 7);
        due("7 is no MOVES", x.read(0, 2, 0, 1), -20);
        x.sheet(0, 2, 1);
        due("CELLS are 0 anew", x.read(0, 2, 0, 1), 1);
    }

    private static void promise31() {
        CrossShuts x = told("bridge 0 1;one 0 1;");
        due("nothing", x.lay(3, 0, 1), -11);
        due("nothing, too, at -1", x.lay(3, -1, 1), -11);
        due("k", x.lay(4, 0, 1), BAD);
        due("k", x.lay(-1, 0, 1), BAD);
        x.sheet(0, 0, 2);
        x.sheet(1, 1, 2);
        x.sheet(2, 2, 2);
        for (int k = 0; k < 3; k++) {
            due("lay(k, -1)", x.lay(k, -1, 0), -12);
            due("lay(k, 2)", x.lay(k, 2, 0), -12);
            due("lay(k, 1)", x.lay(k, 1, 1 << 16), 1);
        }
        due("the lowest 8", x.read(0, 0, 1, 1), 1);
        due("the lowest 16", x.read(1, 1, 1, 1), 1);
        due("all", x.read(2, 2, 1, 1), -20);
        x.lay(0, 0, 257);
        due("257 is 1", x.read(0, 0, 0, 1), 1);
        due("he crossed", x.one(0, 0), 1);
        x.lay(0, 0, 129);
        due("129 is below 0", x.read(0, 0, 0, 1), -20);
    }

    private static void promise32() {
        CrossShuts x = told("hold 1;bridge 0 1;bridge 0 1;chain 0 1;one 0 1;one 0 1;");
        x.sheet(0, 2, 4);
        int[] cells = {1, 0, 2, 9};
        for (int i = 0; i < 4; i++) x.lay(0, i, cells[i]);
        due("k", x.read(4, 2, 0, 1), BAD);
        due("k", x.read(-1, 2, 0, 1), BAD);
        due("lane", x.read(0, 3, 0, 1), BAD);
        due("lane", x.read(0, -1, 0, 1), BAD);
        due("n", x.read(0, 2, 0, -1), BAD);
        due("n", x.read(0, 2, 0, 21), BAD);
        x.keep(0);
        due("three go", x.read(0, 2, 0, 3), 3);
        due("THE MINUTE", x.rule(5), 3);
        due("there and back", x.one(0, 0), 0);
        x.back(0);
        due("two go from CELL 2 on", x.read(0, 2, 2, 2), 2);
        due("both went", x.one(1, 0), 1);
        x.back(0);
        x.lay(0, 1, 2);
        due("in minute 1 it is shut", x.read(0, 2, 0, 4), -21);
        due("none went", x.rule(5), 0);
        due("none went", x.one(0, 0), 0);
        x.lay(0, 1, 64);
        due("of no ONE", x.read(0, 2, 0, 4), -21);
        x.lay(0, 1, 0);
        due("INDEX: those ahead go", x.read(0, 2, 1, 20), 3);
        due("THE MINUTE", x.rule(5), 3);
        due("CAST", x.read(0, 1, 0, 4), 0);
        due("NULL", x.read(1, 2, 0, 4), 0);
        due("far out", x.read(0, 2, Integer.MAX_VALUE, 20), 0);
        due("far out", x.read(0, 2, Integer.MIN_VALUE, 20), 0);
        due("none asked", x.read(0, 2, 0, 0), 0);
        CrossShuts y = new CrossShuts();
        y.sheet(0, 0, 20);
        for (int i = 0; i < 49; i++) y.read(0, 0, 0, 20);
        due("the 1000th would be minute 19", y.read(0, 0, 0, 20), -39);
        due("none goes", y.rule(5), 980);
        due("up to 999", y.read(0, 0, 0, 19), 19);
        due("the 1000th", y.read(0, 0, 0, 1), -20);
    }

    private static void promise33() {
        CrossShuts x = told("bridge 0 1;one 0 1;");
        x.sheet(0, 2, 2);
        x.read(0, 2, 0, 3);
        due("INDEX", x.torn(), 2);
        x.lay(0, 0, 9);
        due("refused", x.read(0, 2, 0, 3), -20);
        due("it came to no end: as before", x.torn(), 2);
        x.read(0, 3, 0, 1);
        due("BAD: as before", x.torn(), 2);
        x.read(0, 0, 0, 1);
        due("CAST", x.torn(), 3);
        x.read(0, 0, 9, 1);
        due("CAST ahead of INDEX", x.torn(), 3);
        x.read(3, 0, -1, 1);
        due("NULL ahead of all", x.torn(), 1);
        x.read(0, 2, 1, 1);
        due("no FAULT", x.torn(), 0);
        x.read(0, 2, -1, 1);
        due("INDEX below 0", x.torn(), 2);
        x.read(0, 2, 5, 0);
        due("nothing is read", x.torn(), 0);
    }

    private static void promise34() {
        CrossShuts x = told("bridge 0 1;bridge 0 1;shut 0 2;one 0 1;one 1 1;one 0 0;");
        due("OPEN", x.count(0), 1);
        due("at their GOALS", x.count(1), 2);
        x.saw(1, 1, true);
        due("SEEN", x.count(2), 1);
        x.keep(1);
        due("IMAGES", x.count(3), 1);
        x.feed(0);
        due("bytes", x.count(4), 8);
        due("nothing", x.count(5), NONE);
        x.sheet(1, 0, 3);
        due("nothing still", x.count(5), NONE);
        x.sheet(0, 1, 40);
        due("CELLS", x.count(5), 40);
        due("count(6)", x.count(6), BAD);
        due("count(-1)", x.count(-1), BAD);
    }

    private static void constants() {
        due("BAD", CrossShuts.BAD, -1);
        due("STATE", CrossShuts.STATE, -2);
        due("FULL", CrossShuts.FULL, -3);
        due("NONE", CrossShuts.NONE, -4);
    }

    public static void main(String[] args) {
        constants();
        Runnable[] all = {PromisesTest::promise1, PromisesTest::promise2, PromisesTest::promise3,
            PromisesTest::promise4, PromisesTest::promise5, PromisesTest::promise6, PromisesTest::promise7,
            PromisesTest::promise8, PromisesTest::promise9, PromisesTest::promise10, PromisesTest::promise11,
            PromisesTest::promise12, PromisesTest::promise13, PromisesTest::promise14, PromisesTest::promise15,
            PromisesTest::promise16, PromisesTest::promise17, PromisesTest::promise18, PromisesTest::promise19,
            PromisesTest::promise20, PromisesTest::promise21, PromisesTest::promise22, PromisesTest::promise23,
            PromisesTest::promise24, PromisesTest::promise25, PromisesTest::promise26, PromisesTest::promise27,
            PromisesTest::promise28, PromisesTest::promise29, PromisesTest::promise30, PromisesTest::promise31,
            PromisesTest::promise32, PromisesTest::promise33, PromisesTest::promise34};
        for (promise = 1; promise <= all.length; promise++) all[promise - 1].run();
        System.out.println(wrong == 0 ? "all promises hold" : wrong + " answers are not as due");
        if (wrong != 0) System.exit(1);
    }
}
