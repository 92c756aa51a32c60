/** THE TAPE, the text and its FAULTS: block 1 of the terms, promises 1 to 5. */
final class TextEdges {
    private static final int FULL = Run.FULL, NONE = Run.NONE, BAD = Run.BAD;
    private static final String SIX = Run.times(6, "bridge 0 1;");
    private static final String FIVE_WORLD = "places 5;";
    /** A text with one line of each kind, each token parted by one blank. */
    private static final String WHOLE = "places 3 ; hold 1 ; law 2 ; bridge 0 1 ; bridge 1 2 ; chain 0 1 ; shut 1 3 ; one 0 2 ;";

    private TextEdges() { }

    private static Run run() {
        return new Run();
    }

    // ---- what there is, by a text

    @Says(promise = 0, value = "PLACES 0 on (2 to 5; 2).")
    private static void places() {
        run().is("rule(0)", 2).taken("law 0;", 1).is("rule(0)", 2);
        for (int n = 2; n <= 5; n++) run().taken("places " + n + ";", 1).is("rule(0)", n);
        for (int n : new int[] {0, 1, 6, 7, 99}) run().faulty("places " + n + ";", 3, 7).is("rule(0)", 2);
    }

    @Says(promise = 0, value = "BRIDGES (6 at most), by order")
    private static void bridges() {
        run().is("rule(1)", 0);
        for (int n = 0; n <= 6; n++) run().taken(Run.times(n, "bridge 1 0;"), n).is("rule(1)", n).is("count(0)", n);
        run().taken("places 5;bridge 0 1;bridge 1 2;bridge 2 3;bridge 3 4;bridge 4 0;bridge 4 2;", 7)
            .row("bridge(#, 0)", 0, 1, 2, 3, 4, 4, BAD).row("bridge(#, 1)", 1, 2, 3, 4, 0, 2, BAD);
        run().faulty(SIX + "bridge 0 1;", 5, 66).is("rule(1)", 0);
    }

    @Says(promise = 0, value = "each between two unlike PLACES")
    private static void unlikePlaces() {
        for (int a = 0; a < 5; a++) {
            for (int b = 0; b < 5; b++) {
                String line = "bridge " + a + " " + b + ";";
                if (a == b) run().faulty(FIVE_WORLD + line, 4, 18);
                else run().taken(FIVE_WORLD + line, 2).is("bridge(0, 0)", a).is("bridge(0, 1)", b);
            }
        }
    }

    @Says(promise = 0, value = "on a BRIDGE there may HANG another one")
    private static void hanging() {
        run().taken(SIX, 6).row("bridge(#, 2)", NONE, NONE, NONE, NONE, NONE, NONE);
        run().taken(SIX + "chain 0 5;chain 5 0;chain 2 0;", 9).row("bridge(#, 2)", 5, NONE, 0, NONE, NONE, 0);
        run().faulty("bridge 0 1;chain 0 0;", 4, 19);
    }

    @Says(promise = 0, value = "PEOPLE (3 at most), each a ONE: a PLACE, a GOAL (a PLACE).")
    private static void people() {
        run().is("rule(2)", 0);
        for (int n = 0; n <= 3; n++) run().taken(Run.times(n, "one 1 0;"), n).is("rule(2)", n);
        run().taken("places 5;one 0 4;one 4 0;one 2 2;", 4).row("one(#, 0)", 0, 4, 2, BAD).row("one(#, 1)", 4, 0, 2, BAD);
        run().faulty(Run.times(4, "one 1 0;"), 5, 24).is("rule(2)", 0);
    }

    @Says(promise = 0, value = "HOLD (1 to 3 MINUTES; 2).")
    private static void hold() {
        run().is("rule(4)", 2).taken("law 0;", 1).is("rule(4)", 2);
        for (int n = 1; n <= 3; n++) run().taken("hold " + n + ";", 1).is("rule(4)", n);
        for (int n : new int[] {0, 4, 5, 99}) run().faulty("hold " + n + ";", 3, 5).is("rule(4)", 2);
    }

    @Says(promise = 0, value = "LAW (0 to 2; 0).")
    private static void law() {
        run().is("rule(3)", 0).taken("hold 1;", 1).is("rule(3)", 0);
        for (int n = 0; n <= 2; n++) run().taken("law " + n + ";", 1).is("rule(3)", n);
        for (int n : new int[] {3, 4, 99}) run().faulty("law " + n + ";", 3, 4).is("rule(3)", 0);
    }

    @Says(promise = 0, value = "THE MINUTE (0 at first).")
    private static void theMinute() {
        run().is("rule(5)", 0).is("minute(0)", 0).is("rule(5)", 1).taken("", 0).is("rule(5)", 0);
    }

    @Says(promise = 0, value = "THE TAPE has 320 bytes, places from 0.")
    private static void tapePlaces() {
        run().faulty("!", 1, 0);
        run().faulty(" ".repeat(319) + "!", 1, 319);
        run().faulty(" ".repeat(314) + "law 1!", 1, 319);
        run().faulty(" ".repeat(315) + "law 1", 2, 320);
        run().taken(" ".repeat(314) + "law 1;", 1).is("rule(3)", 1);
        run().taken(" ".repeat(320), 0);
    }

    // ---- tokens

    @Says(promise = 0, value = "TOKENS, each as long as may be")
    private static void longestTokens() {
        run().faulty("lawlaw 1;", 2, 0);
        run().faulty("lawhold 1;", 2, 0);
        run().faulty("law 12;", 3, 4);
        run().faulty("one 01;", 2, 6);
        run().taken("one 0 1;", 1).taken("one 00 01;", 1);
    }

    @Says(promise = 0, value = "blanks (32) between")
    private static void blanks() {
        run().taken("   law   1   ;   hold   3   ;   ", 2).is("rule(3)", 1).is("rule(4)", 3);
        run().taken("law1;hold3;bridge0 1;one1 0;", 4).is("rule(3)", 1).is("rule(4)", 3);
        for (int sign : new int[] {0, 9, 10, 11, 12, 13, 31, 33, 127, 128, 160, 255}) {
            run().faulty("law" + (char) sign + "1;", 1, 3);
            run().faulty("law 1;" + (char) sign, 1, 6);
        }
    }

    @Says(promise = 0, value = "NAMES (a .. z)")
    private static void names() {
        for (char sign : new char[] {'a', 'm', 'z'}) run().faulty(sign + " 1;", 2, 0).faulty("law" + sign + " 1;", 2, 0);
        for (char sign : new char[] {'a' - 1, 'z' + 1, 'A', 'Z', 'A' - 1, 'Z' + 1, '_', 'a' + 128, 'z' + 128}) {
            run().faulty(sign + " 1;", 1, 0).faulty("law" + sign + " 1;", 1, 3);
        }
    }

    @Says(promise = 0, value = "NUMBERS (1 or 2 figures)")
    private static void numbers() {
        run().taken("law 1;", 1).taken("law 01;", 1).is("rule(3)", 1);
        run().faulty("law 001;", 1, 4).faulty("law 0000000001;", 1, 4);
        run().faulty("law " + "0".repeat(316), 1, 4).faulty("law " + "9".repeat(316), 1, 4);
        run().faulty("law 0 1;", 2, 6).faulty("law 4294967297;", 1, 4);
        for (char sign : new char[] {'0', '9'}) run().faulty(sign + ";", 2, 0);
        for (char sign : new char[] {'0' - 1, '9' + 1, '-', '+', '.', '0' + 128, '9' + 128}) {
            run().faulty("law " + sign + ";", 1, 4).faulty("law 1" + sign, 1, 5);
        }
    }

    @Says(promise = 0, value = "one ; .")
    private static void semicolons() {
        run().faulty(";", 2, 0).faulty("law 1;;", 2, 6).faulty("law 1; ;", 2, 7);
        run().faulty("law 1:", 1, 5).faulty("law 1<", 1, 5);
        run().faulty("law 1" + (char) (';' + 128), 1, 5);
    }

    @Says(promise = 0, value = "text: { line }")
    private static void lines() {
        run().taken("", 0).taken(" ", 0).taken("law 1;", 1).taken("one 0 1;law 0;one 1 0;", 3);
        String most = "places2;hold1;law0;" + Run.times(6, "bridge0 1;") + "chain0 1;chain1 2;chain2 3;chain3 4;chain4 5;chain5 0;"
            + "shut0 1;shut1 1;shut2 1;shut3 1;shut4 1;shut5 1;" + Run.times(3, "one0 1;");
        run().taken(most, 24).is("count(0)", 0).is("rings()", 63);
    }

    @Says(promise = 0, value = "line: places N ; | hold N ; | law N ; | bridge N N ; | chain N N ; | shut N N ; | one N N ;")
    private static void lineForms() {
        for (String name : new String[] {"places", "hold", "law"}) {
            int n = name.length();
            run().taken(name + " 2;", 1).faulty(name + ";", 2, n).faulty(name + " 2 2;", 2, n + 3).faulty(name + " 2" + name + " 2;", 2, n + 2);
        }
        for (String name : new String[] {"bridge", "chain", "shut", "one"}) {
            int n = name.length();
            String ahead = "bridge 0 1;bridge 0 1;";
            run().taken(ahead + name + " 0 1;", 3).faulty(name + ";", 2, n).faulty(name + " 0;", 2, n + 2).faulty(name + " 0 1 1;", 2, n + 5).faulty(name + " 0 1" + name, 2, n + 4);
        }
    }

    // ---- the bounds of a line's numbers

    /** A line with all numbers in place of #; alike is that which another FAULT meets, or -1. */
    private static void bounds(String ahead, String line, int least, int most, int alike) {
        int place = ahead.length() + line.indexOf('#');
        int lines = (ahead + line).length() - (ahead + line).replace(";", "").length();
        for (int n = 0; n <= 99; n++) {
            String text = ahead + line.replace("#", Integer.toString(n));
            if (n == alike) continue;
            if (n < least || n > most) run().faulty(text, 3, place);
            else run().taken(text, lines);
        }
    }

    @Says(promise = 0, value = "bridge: two PLACES (0 to 4).")
    private static void bridgeBounds() {
        bounds("places 5;", "bridge # 0;", 0, 4, 0);
        bounds("places 5;", "bridge 4 #;", 0, 4, 4);
        run().taken("places 5;bridge 0 4;bridge 4 0;", 3);
    }

    @Says(promise = 0, value = "chain: a BRIDGE, which HANGS on it (0 to 5).")
    private static void chainBounds() {
        bounds(SIX, "chain # 0;", 0, 5, 0);
        bounds(SIX, "chain 5 #;", 0, 5, 5);
        run().taken(SIX + "chain 0 5;chain 5 0;", 8);
        run().faulty(SIX + "chain 6 0;", 3, 72).faulty(SIX + "chain 0 6;", 3, 74);
    }

    @Says(promise = 0, value = "shut: a BRIDGE, its REST (1 to 3).")
    private static void shutBounds() {
        bounds(SIX, "shut # 1;", 0, 5, -1);
        bounds(SIX, "shut 0 #;", 1, 3, -1);
        for (int rest = 1; rest <= 3; rest++) run().taken(SIX + "shut 5 " + rest + ";", 7).row("bridge(#, 3)", 0, 0, 0, 0, 0, rest);
    }

    @Says(promise = 0, value = "one: PLACE, GOAL (0 to 4).")
    private static void oneBounds() {
        bounds("places 5;", "one # 0;", 0, 4, -1);
        bounds("places 5;", "one 0 #;", 0, 4, -1);
    }

    // ---- faults

    @Says(promise = 0, value = "FAULTS, the first met as it is read (a TOKEN is read when the one before has been taken)")
    private static void firstMet() {
        run().faulty("law 3!", 3, 4).faulty("law 3 100", 3, 4).faulty("law 1!", 1, 5);
        run().faulty("bridge 5 !", 3, 7).faulty("bridge 1 1!", 4, 9).faulty("bridge 1 5!", 3, 9);
        run().faulty("laws !", 2, 0).faulty("law law !", 2, 4);
        run().faulty("places 2;places !", 4, 9).faulty("hold 2;hold 100;", 4, 7).faulty("law 0;law law", 4, 6);
        run().faulty("chain 0 1;chain 0 !", 4, 16).faulty("chain 0 1;chain 6 !", 3, 16).faulty("shut 0 1;shut 0 9;", 4, 14);
        run().faulty("one 0 0;one 0 0;one 0 0;one !", 5, 24).faulty(SIX + "bridge 9 9", 5, 66);
        run().faulty("bridge 3 4;chain 4 5;one 4 4;law 9;", 3, 33).faulty("one 4 4;!", 1, 8);
        run().faulty("law 9;!", 3, 4).faulty("!law 9;", 1, 0);
    }

    @Says(promise = 0, value = "1 no TOKEN")
    private static void noToken() {
        run().faulty("#", 1, 0).faulty("  #", 1, 2).faulty("law #", 1, 4).faulty("law#", 1, 3).faulty("law 1#", 1, 5);
        run().faulty("law 1 #;", 1, 6).faulty("law 1;#", 1, 6).faulty("one 0 #", 1, 6).faulty("one 0 1 #", 1, 8);
    }

    @Says(promise = 0, value = "a NUMBER that is too long (its first byte)")
    private static void numberTooLong() {
        run().faulty("100", 1, 0).faulty("  100", 1, 2).faulty("law 100;", 1, 4).faulty("law 1 100", 1, 6);
        run().faulty("one 100 0;", 1, 4).faulty("one 0 100;", 1, 6).faulty("one 0 000;", 1, 6).faulty("one 0 1 100", 1, 8);
        run().faulty("law 1;100", 1, 6).faulty("law100", 1, 3);
        run().taken("one 01 00;", 1);
    }

    @Says(promise = 0, value = "2 a TOKEN that can not stand there")
    private static void wrongToken() {
        run().faulty("1 law;", 2, 0).faulty("; law 1;", 2, 0);
        run().faulty("law ;", 2, 4).faulty("law hold;", 2, 4).faulty("law law 1;", 2, 4);
        run().faulty("law 1 1;", 2, 6).faulty("law 1 law 1;", 2, 6).faulty("law 1 hold 1;", 2, 6);
        run().faulty("one ;", 2, 4).faulty("one one", 2, 4).faulty("one 0;", 2, 5).faulty("one 0 one", 2, 6);
        run().faulty("one 0 0 0;", 2, 8).faulty("one 0 0 one 0 0;", 2, 8);
        run().faulty("law 1; 2;", 2, 7);
    }

    @Says(promise = 0, value = "a NAME that begins no line")
    private static void noSuchLine() {
        for (String name : new String[] {"place", "placess", "hol", "holds", "la", "laws", "bridg", "bridges", "chai", "chains",
            "shu", "shuts", "on", "ones", "a", "z", "text", "line", "oneone", "eno", "wal", "places" + "x".repeat(300)}) {
            run().faulty(name + " 2;", 2, 0).faulty("law 2;" + name, 2, 6);
        }
        for (String name : new String[] {"places", "hold", "law", "bridge", "chain", "shut", "one"}) {
            for (int i = 0; i < name.length(); i++) run().faulty(name.substring(0, i) + "q" + name.substring(i + 1) + " 2;", 2, 0);
        }
    }

    @Says(promise = 0, value = "or the end: the length")
    private static void theEnd() {
        for (String line : new String[] {"places 2", "hold 2", "law 2", "bridge 0 1", "chain 0 1", "shut 0 1", "one 0 1"}) {
            String[] words = line.split(" ");
            StringBuilder part = new StringBuilder();
            for (String word : words) {
                part.append(word);
                run().faulty(part.toString(), 2, part.length());
                run().faulty("   " + part + "  ", 2, part.length() + 5);
                part.append(' ');
            }
        }
        run().put("law 2;law").is("end(3)", 9).is("text()", -13).is("fault()", 2);
        run().put("law 2;law").is("end(4)", 9).is("text()", -14).is("fault()", 2);
        run().put("law 2;law").is("end(5)", 9).is("text()", -15).is("fault()", 2);
        run().put("law 2;law").is("end(6)", 9).is("text()", 1).is("fault()", 0);
    }

    @Says(promise = 0, value = "3 a NUMBER out of its bounds.")
    private static void outOfBounds() {
        run().faulty("places 1;", 3, 7).faulty("places 6;", 3, 7).faulty("hold 0;", 3, 5).faulty("hold 4;", 3, 5).faulty("law 3;", 3, 4);
        run().faulty("bridge 5 0;", 3, 7).faulty("bridge 0 5;", 3, 9).faulty("bridge 5 5;", 3, 7);
        run().faulty("chain 6 0;", 3, 6).faulty("chain 0 6;", 3, 8).faulty("chain 6 6;", 3, 6);
        run().faulty("shut 6 1;", 3, 5).faulty("shut 0 0;", 3, 7).faulty("shut 0 4;", 3, 7).faulty("shut 6 0;", 3, 5);
        run().faulty("one 5 0;", 3, 4).faulty("one 0 5;", 3, 6).faulty("one 5 5;", 3, 4).faulty("one   05   0;", 3, 6);
    }

    @Says(promise = 0, value = "4 places, hold, law for the second time (its NAME)")
    private static void secondTime() {
        run().faulty("places 2;places 2;", 4, 9).faulty("hold 2;  hold 2;", 4, 9).faulty("law 2;law 2;", 4, 6);
        run().faulty("law 2;hold 2;places 2;law 2;", 4, 22).faulty("law 0;one 0 0;law 0;", 4, 14).faulty("law 0;law", 4, 6);
        run().taken("law 2;hold 2;places 2;", 3).taken("law 2;hold 2;places 2;", 3);
    }

    @Says(promise = 0, value = "a PLACE and itself (the second one)")
    private static void placeAndItself() {
        for (int a = 0; a <= 4; a++) run().faulty("bridge " + a + " " + a + ";", 4, 9).faulty("bridge " + a + "  0" + a + ";", 4, 10);
        run().taken("one 0 0;one 1 1;", 2);
    }

    @Says(promise = 0, value = "a BRIDGE on which one HANGS already, or that is shut already (it)")
    private static void alreadyTold() {
        run().faulty(SIX + "chain 0 1;chain 0 1;", 4, 82).faulty(SIX + "chain 5 0;chain 5 1;", 4, 82);
        run().faulty(SIX + "chain 5 0;chain 4 0;chain 5 1;", 4, 92).faulty("chain 3 4;chain 3 4;", 4, 16);
        run().taken(SIX + "chain 0 1;chain 1 0;chain 2 0;", 9);
        for (int rest = 1; rest <= 3; rest++) run().faulty(SIX + "shut 0 " + rest + ";shut 0 1;", 4, 80).faulty("shut 5 " + rest + ";shut 5", 4, 14);
        run().taken(SIX + "shut 0 1;chain 0 1;shut 1 1;chain 1 0;", 10);
        run().taken("bridge 0 1;shut 0 3;", 2).taken("bridge 0 1;bridge 0 1;shut 0 3;chain 0 1;", 4)
            .taken("bridge 0 1;bridge 0 1;shut 0 3;chain 0 1;", 4);
    }

    @Says(promise = 0, value = "one that would HANG on itself (the second one)")
    private static void onItself() {
        for (int b = 0; b <= 5; b++) run().faulty(SIX + "chain " + b + " " + b + ";", 4, 74);
        run().faulty("chain 5 05;", 4, 8).faulty("chain 0 1;chain 0 0;", 4, 16);
    }

    @Says(promise = 0, value = "5 the 7th bridge, the 4th one (its NAME).")
    private static void tooMany() {
        run().faulty(SIX + "bridge 0 1;", 5, 66).faulty(SIX + "   bridge", 5, 69).faulty(SIX + "law 1;bridge", 5, 72);
        run().faulty("one 0 1;one 0 1;one 0 1;one 0 1;", 5, 24).faulty("one 0 1;one 0 1;one 0 1; one", 5, 25);
        run().taken(SIX + "one 0 1;one 0 1;one 0 1;", 9);
    }

    @Says(promise = 0, value = "Behind all (the length): 6 a PLACE, a BRIDGE that there is not.")
    private static void notThere() {
        for (int n = 2; n <= 4; n++) {
            String places = "places " + n + ";";
            run().taken(places + "bridge 0 " + (n - 1) + ";", 2).faulty(places + "bridge 0 " + n + ";", 6, 20);
            run().taken(places + "bridge " + (n - 1) + " 0;", 2).faulty(places + "bridge " + n + " 0;", 6, 20);
            run().taken(places + "one 0 " + (n - 1) + ";", 2).faulty(places + "one 0 " + n + ";", 6, 17);
            run().taken(places + "one " + (n - 1) + " 0;", 2).faulty(places + "one " + n + " 0;", 6, 17);
        }
        run().taken("bridge 0 4;places 5;", 2).taken("one 4 4;places 5;", 2).faulty("bridge 0 2;", 6, 11).faulty("one 2 2;  ", 6, 10);
        for (int n = 2; n <= 5; n++) {
            String bridges = Run.times(n, "bridge 0 1;");
            run().taken(bridges + "chain 0 " + (n - 1) + ";", n + 1).faulty(bridges + "chain 0 " + n + ";", 6, 11 * n + 10);
            run().taken(bridges + "chain " + (n - 1) + " 0;", n + 1).faulty(bridges + "chain " + n + " 0;", 6, 11 * n + 10);
            run().taken(bridges + "shut " + (n - 1) + " 1;", n + 1).faulty(bridges + "shut " + n + " 1;", 6, 11 * n + 9);
        }
        run().faulty("shut 0 1;", 6, 9).faulty("chain 0 1;", 6, 10).faulty("chain 0 1;bridge 0 1;", 6, 21);
        run().taken("shut 0 1;bridge 0 1;", 2).taken("chain 0 1;bridge 0 1;bridge 0 1;", 3);
    }

    @Says(promise = 0, value = "A text that is taken tells all, in place of what there was")
    private static void inPlaceOfAll() {
        Run r = Run.told(WHOLE).does("send(0, 1, 1)").taken("bridge 1 0;", 1);
        r.row("rule(#)", 2, 1, 0, 0, 2, 0, BAD).row("bridge(0, #)", 1, 0, NONE, 0, BAD).is("one(0, 0)", BAD).is("bridge(1, 0)", BAD);
        r.taken("", 0).row("rule(#)", 2, 0, 0, 0, 2, 0, BAD);
        Run.told(WHOLE).taken(SIX + "one 0 0;one 0 0;", 8).row("bridge(#, 2)", NONE, NONE, NONE, NONE, NONE, NONE, BAD)
            .row("bridge(#, 3)", 0, 0, 0, 0, 0, 0, BAD).row("one(#, 1)", 0, 0, BAD);
        Run.told("law 2;hold 3;places 5;").taken("one 0 1;", 1).row("rule(#)", 2, 0, 1, 0, 2, 0);
    }

    @Says(promise = 0, value = "THE MINUTE is 0; nothing is SEEN; IMAGES are gone.")
    private static void allElseIsGone() {
        Run.told(WHOLE).does("minute(0)", "keep(0)", "keep(1)", "saw(0, 1, true)", "saw(1, 1, true)").taken(WHOLE, 8)
            .is("rule(5)", 0).row("count(#)", 1, 0, 0, 0, 0, NONE).are(Run.STATE, "back(0)", "back(1)").are(0, "keep(0)", "keep(1)", "forget(0)");
        Run.told(WHOLE).does("keep(1)", "saw(0, 1, true)").is("text()", 0).is("back(1)", Run.STATE).is("count(2)", 0);
    }

    // ---- promises

    @Says(promise = 1, value = "Two PLACES, no BRIDGES; SHEETS have nothing.")
    private static void newObject() {
        run().row("rule(#)", 2, 0, 0, 0, 2, 0, BAD).row("count(#)", 0, 0, 0, 0, 0, NONE, BAD).is("bridge(0, 0)", BAD).is("one(0, 0)", BAD)
            .row("lay(#, 0, 0)", -11, -11, -11, -11, BAD).row("back(#)", Run.STATE, Run.STATE, BAD).are(0, "fault()", "torn()", "rings()");
        for (int k = 0; k < 4; k++) for (int lane = 0; lane < 3; lane++) run().is("read(" + k + ", " + lane + ", 0, 1)", 0).is("torn()", 1);
        run().is("rigs(0)", 1).are(NONE, "look(0)", "look(1)").is("minute(0)", 0).is("text()", 0).is("end(0)", 0);
    }

    @Says(promise = 2, value = "Eight bytes come behind THE TAPE, the highest first: how many it has.")
    private static void feedOrder() {
        for (int i = 0; i < 8; i++) {
            long blanks = 0x2020202020202020L;
            long one = blanks & ~(255L << 56 - 8 * i) | (long) '!' << 56 - 8 * i;
            run().is("feed(" + one + ")", 8).is("text()", -10 - i).is("fault()", 1);
            run().is("feed(" + blanks + ")", 8).is("feed(" + one + ")", 16).is("text()", -18 - i).is("fault()", 1);
            long high = blanks & ~(255L << 56 - 8 * i) | 255L << 56 - 8 * i;
            run().is("feed(" + high + ")", 8).is("text()", -10 - i).is("fault()", 1);
        }
        run().is("feed(" + 0x6c617720323b2020L + ")", 8).is("text()", 1).is("rule(3)", 2);
    }

    @Says(promise = 2, value = "Eight bytes come behind THE TAPE")
    private static void feedWrapsNothing() {
        run().is("feed(0)", 8).is("text()", -10).is("fault()", 1);
        run().is("feed(-1)", 8).is("count(4)", 8).is("text()", -10).is("fault()", 1);
        run().is("feed(" + Long.MIN_VALUE + ")", 8).is("text()", -10).is("feed(" + Long.MAX_VALUE + ")", 8).is("text()", -10);
        run().is("feed(" + 0x6c617720313b20ffL + ")", 8).is("text()", -17).is("fault()", 1);
        run().is("feed(" + 0x6c617720313bff20L + ")", 8).is("text()", -16).is("fault()", 1);
        run().is("feed(" + 0x6c617720b1202020L + ")", 8).is("text()", -14).is("fault()", 1);
    }

    @Says(promise = 2, value = "FULL: more than 320.")
    private static void feedFull() {
        Run r = run();
        for (int i = 1; i <= 40; i++) r.is("feed(" + 0x2020202020202020L + ")", 8 * i);
        r.are(FULL, "feed(0)", "feed(-1)", "feed(" + 0x2020202020202020L + ")").is("count(4)", 320).is("end(319)", 320).is("feed(0)", FULL)
            .is("end(313)", 319).is("feed(0)", FULL).is("count(4)", 313).is("end(312)", 313).is("feed(" + 0x2020202020203b3bL + ")", 320)
            .is("feed(0)", FULL).is("text()", -328).is("feed(0)", 8);
    }

    @Says(promise = 3, value = "THE TAPE keeps its first n bytes: how many it had. BAD.")
    private static void end() {
        run().is("end(0)", 0).are(BAD, "end(1)", "end(-1)", "end(MIN)", "end(MAX)", "end(320)").is("count(4)", 0);
        run().put("law 1;hold 3;").are(BAD, "end(14)", "end(-1)", "end(MIN)", "end(MAX)", "end(16)").is("end(13)", 13).is("end(12)", 13)
            .is("end(13)", BAD).is("end(6)", 12).is("count(4)", 6).is("text()", 1).is("rule(3)", 1).is("rule(4)", 2);
        run().put("law 1;hold 3;").is("end(0)", 13).is("end(0)", 0).is("text()", 0).is("rule(3)", 0);
        run().put("law 1;!!").is("end(6)", 8).is("feed(" + 0x686f6c6420333b20L + ")", 14).is("text()", 2).is("rule(4)", 3);
        Run full = run().put(" ".repeat(320));
        full.is("end(321)", BAD).is("end(320)", 320).is("end(1)", 320).is("end(2)", BAD).is("end(0)", 1);
    }

    @Says(promise = 4, value = "THE TAPE (empty then) tells all: how many lines")
    private static void textEmpties() {
        run().put("law 1;").is("count(4)", 6).is("text()", 1).is("count(4)", 0).is("end(0)", 0).is("text()", 0).is("rule(3)", 0);
        run().put("law 9;").is("text()", -14).is("count(4)", 0).is("end(1)", BAD).is("text()", 0).is("fault()", 0);
        run().put("law").is("text()", -13).is("feed(" + 0x6c617720323b2020L + ")", 8).is("text()", 1).is("rule(3)", 2);
    }

    @Says(promise = 4, value = "-10 less the place of its FAULT: that which was told stays.")
    private static void textRefused() {
        String[] faulty = {"!", "law", "law 3;", "law 1;law 1;", SIX + "bridge 0 1;", "hold 3;law 1;one 4 4;"};
        int[] places = {0, 3, 4, 6, 66, 21};
        for (int i = 0; i < faulty.length; i++) {
            Run r = Run.told(WHOLE).does("minute(0)", "keep(1)", "saw(0, 1, true)", "sheet(0, 0, 7)").faulty(faulty[i], i + 1, places[i]);
            r.row("rule(#)", 3, 2, 1, 2, 1, 1).row("bridge(0, #)", 0, 1, 1, 0).row("bridge(1, #)", 1, 2, NONE, 2).row("one(0, #)", 0, 2, 1);
            r.row("count(#)", 1, 0, 1, 1, 0, 7).is("rigs(0)", 2).is("back(1)", 1).is("back(0)", Run.STATE);
        }
    }

    @Says(promise = 5, value = "The FAULT of the latest text(); 0.")
    private static void fault() {
        run().is("fault()", 0).faulty("!", 1, 0).is("fault()", 1).faulty("law", 2, 3).faulty("law 3;", 3, 4).faulty("law 1;law 1;", 4, 6)
            .faulty(Run.times(4, "one 0 1;"), 5, 24).faulty("shut 0 1;", 6, 9).does("feed(0)", "end(3)", "rule(9)", "minute(0)", "keep(0)", "back(0)")
            .is("fault()", 6).does("end(0)").is("text()", 0).is("fault()", 0);
    }
}
