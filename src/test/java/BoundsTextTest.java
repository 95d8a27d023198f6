/** Terms II, sentence by sentence, at the bound and beside it: the TAPE, TOKENS, LINES, words, brackets, FREE ones, the SHELF. */
public final class BoundsTextTest {
    private static final Check CHECK = new Check();
    private static final String[] ALONE = {"shelf", "have", "make", "same"};

    private BoundsTextTest() {
    }

    public static void main(String[] args) {
        tapeBytes();
        tapeEnds();
        wholeTape();
        protocols();
        tokens();
        bytes();
        columnsAndActs();
        lines();
        sureOnce();
        numbers();
        numbersWrapAround();
        oneBy();
        brackets();
        words();
        wordsOfBys();
        wordsAlone();
        bracketsAlone();
        freeOnes();
        freeOutside();
        freeNumbers();
        holes();
        unlikeHoles();
        shelf();
        shelfTerms();
        endsFault();
        CHECK.close();
    }

    private static void due(String call, long got, long want) {
        CHECK.due(call, got, want);
    }

    private static String blanks(int n) {
        return Texts.times(n, " ", "");
    }

    private static void taken(String text) {
        HandShakes x = new HandShakes();
        due("protocol() '" + text + "'", Tape.protocol(x, text), 0);
        due("fault() of '" + text + "'", x.fault(), -1);
        due("count(5) behind '" + text + "'", x.count(5), 0);
    }

    private static void refused(String text, int place) {
        HandShakes x = new HandShakes();
        due("protocol() '" + text + "'", Tape.protocol(x, text), -6);
        due("fault() of '" + text + "'", x.fault(), place);
        due("count(5) behind '" + text + "'", x.count(5), 0);
        due("count(0) behind '" + text + "'", x.count(0), 0);
    }

    private static int read(HandShakes x, String call, String text) {
        switch (call) {
            case "shelf": return Tape.shelf(x, text);
            case "have": return Tape.have(x, text);
            case "make": return Tape.make(x, text);
            default: return Tape.same(x, text);
        }
    }

    /** A TERM alone, by one of the four calls: its FAULT (-1 without), and that the TAPE is empty then. */
    private static void alone(String call, String text, int place) {
        HandShakes x = new HandShakes();
        Tape.same(x, "g");
        int answer = read(x, call, text);
        due(call + "() '" + text + "' is refused", answer < 0 ? 1 : 0, place < 0 ? 0 : 1);
        due("fault() of " + call + "() '" + text + "'", x.fault(), place);
        due("count(5) behind " + call + "() '" + text + "'", x.count(5), 0);
    }

    /** Where the n-th word of those that begin a TERM or a BY is, the ACT's words not counted. */
    private static int placeOfWord(String text, int from, int n) {
        int place = from;
        for (int k = 0; k < n; k++) {
            while (place < text.length() && !Character.isLetter(text.charAt(place))) {
                place++;
            }
            if (k == n - 1) {
                return place;
            }
            while (place < text.length() && Character.isLetter(text.charAt(place))) {
                place++;
            }
        }
        return place;
    }

    // ---- the TAPE ----

    private static void tapeBytes() {
        CHECK.says("Twenty bytes come behind the TAPE .. NONE, if there would be more than 400");
        HandShakes x = new HandShakes();
        for (int i = 1; i <= 20; i++) {
            due("feed " + i, x.feed(-1, -1, -1, -1, -1), 20L * i);
        }
        due("feed 21", x.feed(0, 0, 0, 0, 0), -1);
        due("count(5)", x.count(5), 400);
        for (int n = 399; n >= 381; n--) {
            due("end(" + n + ")", x.end(n), n);
            due("feed behind " + n, x.feed(0, 0, 0, 0, 0), -1);
            due("count(5)", x.count(5), n);
        }
        due("end(380)", x.end(380), 380);
        due("feed behind 380", x.feed(0, 0, 0, 0, 0), 400);
        due("end(379)", x.end(379), 379);
        due("feed behind 379", x.feed(0, 0, 0, 0, 0), 399);
        due("feed behind 399", x.feed(0, 0, 0, 0, 0), -1);
        CHECK.says("four of each number, the highest first");
        // Each number's bytes count: "key " "0" and so on; one byte is changed at a time.
        String good = "pair(key 0,  lot 2 )";
        for (int i = 0; i < 20; i++) {
            HandShakes y = new HandShakes();
            String bad = good.substring(0, i) + "?" + good.substring(i + 1);
            boolean inside = good.charAt(i) != ' ';
            Tape.put(y, bad);
            due("have() with a sign at " + i, y.have(), -6);
            // In a row of letters the broken word is at FAULT, else the sign.
            int place = i < 4 ? 0 : i >= 5 && i < 8 ? 5 : i >= 13 && i < 16 ? 13 : i;
            due("fault() with a sign at " + i + (inside ? "" : " in place of a blank"), y.fault(), place);
        }
    }

    private static void tapeEnds() {
        CHECK.says("The TAPE has its first n bytes alone: n. NONE, if it has not so many, or n is below 0");
        HandShakes x = new HandShakes();
        due("end(0) of an empty one", x.end(0), 0);
        due("end(1) of an empty one", x.end(1), -1);
        due("end(-1) of an empty one", x.end(-1), -1);
        x.feed(0, 0, 0, 0, 0);
        due("end(21)", x.end(21), -1);
        due("count(5)", x.count(5), 20);
        due("end(-1)", x.end(-1), -1);
        due("end(least)", x.end(Integer.MIN_VALUE), -1);
        due("end(most)", x.end(Integer.MAX_VALUE), -1);
        due("count(5)", x.count(5), 20);
        due("end(20)", x.end(20), 20);
        due("end(19)", x.end(19), 19);
        due("end(20) of 19", x.end(20), -1);
        due("end(0)", x.end(0), 0);
        due("count(5)", x.count(5), 0);
    }

    private static void wholeTape() {
        CHECK.says("PROTOCOLS are TEXTS .. on a TAPE of at most 400 bytes");
        for (int n = 399; n <= 400; n++) {
            taken("a send" + blanks(n - 7) + "g");
            taken(blanks(n - 8) + "a send g");
            taken("a send g" + blanks(n - 8));
            refused("a send" + blanks(n - 7) + "q", n - 1);
            refused("a send" + blanks(n - 6), n);
            refused(blanks(n), n);
            refused("a send lot " + Texts.times(n - 12, "0", "") + "3", 11);
            refused("a send " + Texts.times(n - 7, "g", ""), 7);
            refused(Texts.times(n, "a", ""), 0);
            refused(Texts.times(n, ";", ""), 0);
        }
    }

    private static void protocols() {
        CHECK.says("6 at most; -5 six are there (ahead of reading it); -6");
        HandShakes x = new HandShakes();
        for (int i = 0; i < 5; i++) {
            due("protocol() " + i, Tape.protocol(x, "a send g"), i);
        }
        due("protocol(), unreadable, as the sixth", Tape.protocol(x, "a send"), -6);
        due("fault()", x.fault(), 6);
        due("count(0)", x.count(0), 5);
        due("protocol() 5", Tape.protocol(x, "b take g;b send g"), 5);
        due("count(0)", x.count(0), 6);
        Tape.put(x, "c");
        due("protocol() 6, unreadable", x.protocol(), -5);
        due("fault(): it was not read", x.fault(), -1);
        due("count(5): it was not read", x.count(5), 1);
        due("status()", x.status(), -5);
        Tape.put(x, "a send g");
        due("protocol() 6", x.protocol(), -5);
        due("count(0)", x.count(0), 6);
        due("have(): the TAPE is as it was", x.have(), -6);
        due("fault()", x.fault(), 0);
        due("lines(5, 0)", x.lines(5, 0), 2);
        due("lines(6, 0)", x.lines(6, 0), -1);
        due("prove(5)", x.prove(5, 1, 0), 0);
        due("prove(6)", x.prove(6, 1, 0), -1);
    }

    // ---- TOKENS ----

    private static void tokens() {
        CHECK.says("TOKENS: longest rows of letters a .. z, of digits, single other bytes, any blanks (32) between");
        taken("a send g");
        taken("a  send   g");
        taken(" a send g ");
        taken("a send name0");
        taken("a send name  0");
        taken("a send pair(g,g)");
        taken("  a  send  pair  (  g  ,  raise  (  g  ,  lot  0  ,  key  1  )  )  ;  b  take  x  3  ");
        taken("a send lot0;b send lot1");
        refused("as end g", 0);
        refused("asend g", 0);
        refused("a se nd g", 2);
        refused("a sendg", 2);
        refused("a send nam e 0", 7);
        refused("a send namex 0", 7);
        refused("a send name 0 1", 14);
        refused("a send name 0 0", 14);
        refused("a send name 10", 12);
        refused("a send 0", 7);
        refused("a send (g)", 7);
        refused("a send pair((g),g)", 12);
        refused("a send pair(g,g))", 16);
        refused("a send pair[g,g]", 11);
        refused("a send g,", 8);
        refused("a send g:b send g", 8);
    }

    private static void bytes() {
        CHECK.says("single other bytes, any blanks (32) between");
        for (int sign = 0; sign < 256; sign++) {
            String one = String.valueOf((char) sign);
            boolean letter = sign >= 'a' && sign <= 'z';
            if (sign == ' ') {
                taken("a send g" + one);
                taken(one + "a send g");
            } else if (letter) {
                refused("a send g" + one, 7);
            } else {
                refused("a send g" + one, sign == ';' ? 9 : 8);
                refused(one + "a send g", 0);
                if (sign == '0') {
                    taken("a send name 00");
                } else {
                    refused("a send name " + one + "0", 12);
                }
            }
        }
    }

    private static void columnsAndActs() {
        CHECK.says("LINE: (\"a\" | \"b\") ACT TERM. ACT: \"send\" | \"take\" | \"show\" | \"sure\"");
        for (String act : new String[] {"send", "take", "show", "sure"}) {
            taken("a " + act + " g");
            taken("b " + act + " g");
            refused("c " + act + " g", 0);
            refused("ab " + act + " g", 0);
            refused("a " + act, 2 + act.length());
            refused("a " + act + "s g", 2);
            refused("a " + act + " " + act + " g", 3 + act.length());
        }
        refused("a g", 2);
        refused("send g", 0);
        refused("a b send g", 2);
    }

    // ---- LINES ----

    private static void lines() {
        CHECK.says("LINE {\";\" LINE}, 12 at most (FAULT at the 13th's first TOKEN)");
        for (int n = 1; n <= 12; n++) {
            taken(Texts.times(n, "a send g", ";"));
            taken(Texts.times(n, "b take x 0", " ; "));
            HandShakes x = CHECK.with(Texts.times(n, "a send g", ";"));
            due("lines(0, 0) of " + n, x.lines(0, 0), n);
            due("lines(0, 2) of " + n, x.lines(0, 2), n);
            due("lines(0, 3) of " + n, x.lines(0, 3), 0);
            refused(Texts.times(n, "a send g", ";") + ";", 9 * n);
            refused(Texts.times(n, "a send g", ";") + ";;", 9 * n);
        }
        String twelve = Texts.times(12, "a send g", ";") + ";";
        refused(twelve + "a send g", 108);
        refused(twelve + "b take g", 108);
        refused(twelve + "   b take g", 111);
        refused(twelve + "nothing", 108);
        refused(twelve + "   ", 111);
        refused(Texts.times(14, "a send g", ";"), 108);
        taken(twelve.substring(0, 107) + "  ");
        refused("", 0);
        refused(";", 0);
        refused(";a send g", 0);
        refused("a send g;;b send g", 9);
        HandShakes x = CHECK.with(Texts.times(6, "a send g;b take g", ";"));
        due("lines(0, 0)", x.lines(0, 0), 12);
        due("lines(0, 2)", x.lines(0, 2), 6);
        due("lines(0, 3)", x.lines(0, 3), 6);
    }

    private static void sureOnce() {
        CHECK.says("\"sure\" (once in a COLUMN: FAULT at the second one)");
        taken("a sure g");
        taken("a sure g;b sure g");
        taken("b sure g;a sure g");
        refused("a sure g;a sure g", 11);
        refused("b sure g;b sure g", 11);
        refused("a sure g;b sure g;b sure g", 20);
        refused("b sure g;a sure g;b sure g;a sure g", 20);
        refused("a sure g;a  sure  nothing", 12);
        String ten = Texts.times(10, "b send g", ";") + ";";
        taken("a sure g;" + ten + "b sure g");
        refused("a sure g;" + ten + "a sure g", 9 + 90 + 2);
    }

    private static void number(String before, int most, String behind) {
        for (int n = 0; n <= most; n++) {
            taken(before + n + behind);
            taken(before + "0" + n + behind);
        }
        refused(before + (most + 1) + behind, before.length());
        for (String wrong : new String[] {"9", "09", "90", "99", "10", "010", "0" + (most + 1)}) {
            refused(before + wrong + behind, before.length());
        }
        refused(before + "-1" + behind, before.length());
        refused(before + "a" + behind, before.length());
        refused(before + behind, before.length());
        refused(before.trim(), before.trim().length());
    }

    private static void numbers() {
        CHECK.says("\"name\" NUMBER (0, 1)");
        number("a send name ", 1, "");
        number("a send pair(g,name ", 1, ")");
        CHECK.says("\"key\" NUMBER (0, 1)");
        number("b show key ", 1, ";b send g");
        CHECK.says("\"lot\" NUMBER (0 .. 2)");
        number("b sure lot ", 2, "");
        CHECK.says("\"x\" NUMBER (0 .. 3)");
        number("a take x ", 3, "");
        number("a take sum(x ", 3, ")");
        CHECK.says("\"hole\" NUMBER (0 .. 2)");
        number("a send hole ", 2, "");
        CHECK.says("BY: \"lot\" NUMBER | \"key\" NUMBER");
        number("a send raise(g,lot ", 2, ")");
        number("a send raise(g,key ", 1, ")");
        number("a send raise(g,key 0,lot ", 2, ",key 0)");
    }

    private static void numbersWrapAround() {
        CHECK.says("FAULT: the first TOKEN that can't go on there");
        String[] large = {"255", "256", "257", "65536", "2147483647", "2147483648", "4294967295", "4294967296", "4294967297",
            "9223372036854775807", "9223372036854775808", "18446744073709551615", "18446744073709551616", "18446744073709551617",
            "10000000000000000000000000000000000000000", "0000000000000000000000000000000000000000000000000004"};
        for (String one : large) {
            refused("a send lot " + one, 11);
            refused("a send name " + one, 12);
            refused("a take x " + one, 9);
            refused("a send raise(g,key " + one + ")", 19);
            alone("make", "lot " + one, 4);
        }
        taken("a send lot 0000000000000000000000000000000000000000000000000002");
    }

    private static void oneBy() {
        CHECK.says("\"raise\" \"(\" TERM {\",\" BY} \")\", one BY at least. BY: \"lot\" NUMBER | \"key\" NUMBER");
        refused("a send raise(g)", 14);
        taken("a send raise(g,lot 0)");
        taken("a send raise(g,key 1,lot 0)");
        refused("a send raise(g,)", 15);
        refused("a send raise(g,lot 0,)", 21);
        refused("a send raise(g,g)", 15);
        refused("a send raise(g,name 0)", 15);
        refused("a take raise(g,x 0)", 15);
        refused("a send raise(g,hole 0)", 15);
        refused("a send raise(g,raise(g,lot 0))", 15);
        refused("a send raise(g,sum(lot 0))", 15);
        refused("a send raise(,lot 0)", 13);
        refused("a send raise(lot 0)", 18);
        refused("a send raise g,lot 0", 13);
        refused("a send raise(g,lot 0", 20);
        refused("a send raise(g lot 0)", 15);
        taken("a send raise(raise(sum(g),lot 0),lot 1)");
    }

    private static void brackets() {
        CHECK.says("6 brackets within one another (FAULT at the 7th) at most");
        for (int n = 1; n <= 6; n++) {
            taken("a send " + Texts.sums(n, "g"));
            taken("a send pair(" + Texts.sums(n - 1, "g") + "," + Texts.sums(n - 1, "g") + ")");
            taken("a send seal(g," + Texts.sums(n - 1, "g") + ")");
            taken("a send " + Texts.sums(n - 1, "raise(g,lot 0,key 0)"));
        }
        refused("a send " + Texts.sums(7, "g"), 7 + 6 * 4 + 3);
        refused("a send " + Texts.sums(8, "g"), 7 + 6 * 4 + 3);
        refused("a send " + Texts.sums(6, "sum (g)"), 7 + 6 * 4 + 4);
        refused("a send " + Texts.sums(6, "sum g"), 7 + 6 * 4 + 4);
        refused("a send " + Texts.sums(6, "pair(g,g)"), 7 + 6 * 4 + 4);
        refused("a send " + Texts.sums(6, "seal(g,g)"), 7 + 6 * 4 + 4);
        refused("a send " + Texts.sums(6, "raise(g,lot 0)"), 7 + 6 * 4 + 5);
        refused("a send pair(g," + Texts.sums(6, "g") + ")", 14 + 5 * 4 + 3);
        refused("a send seal(" + Texts.sums(6, "g") + ",g)", 12 + 5 * 4 + 3);
        refused("a send raise(" + Texts.sums(6, "g") + ",lot 0)", 13 + 5 * 4 + 3);
        refused("a send g;b take " + Texts.sums(7, "g"), 16 + 6 * 4 + 3);
        // More than six, but not within one another; in the next LINE it begins anew.
        taken("a send pair(" + Texts.sums(4, "g") + "," + Texts.sums(4, "g") + ")");
        taken("a send " + Texts.sums(6, "g") + ";a send " + Texts.sums(6, "g"));
    }

    private static void words() {
        CHECK.says("In a LINE 20 words that begin a TERM or a BY (FAULT at the 21st)");
        for (int n = 18; n <= 20; n++) {
            taken("a send " + Texts.sized(n, "g"));
            taken("a send " + Texts.sized(n, "lot 2"));
            taken("a take " + Texts.sized(n, "x 0"));
            taken("a send " + Texts.sized(n, "hole 0"));
        }
        for (String leaf : new String[] {"g", "name 0", "key 1", "lot 2", "x 0", "hole 0"}) {
            String start = leaf.startsWith("x") ? "a take " : "a send ";
            for (int n = 21; n <= 24; n++) {
                String text = start + Texts.sized(n, leaf);
                refused(text, placeOfWord(text, 7, 21));
            }
        }
        String nineteen = Texts.sized(19, "g");
        taken("a send sum(" + nineteen + ")");
        refused("a send pair(" + nineteen + ",g)", 12 + nineteen.length() + 1);
        refused("a send pair(" + nineteen + ",)", 12 + nineteen.length() + 1);
        refused("a send pair(" + nineteen + ",sum(g))", 12 + nineteen.length() + 1);
        refused("a send pair(" + nineteen + ",x 0)", 12 + nineteen.length() + 1);
        // Each LINE has its own 20.
        String twenty = Texts.sized(20, "g");
        taken("a send " + twenty + ";a send " + twenty + ";b send " + twenty);
        String more = "a send " + twenty + ";a send " + Texts.sized(21, "g");
        refused(more, placeOfWord(more, 7 + twenty.length() + 8, 21));
    }

    private static void wordsOfBys() {
        CHECK.says("In a LINE 20 words that begin a TERM or a BY (FAULT at the 21st)");
        for (int n = 16; n <= 18; n++) {
            taken("a send " + Texts.raised("g", n, "lot 0"));
            taken("a send " + Texts.raised("g", n, "key 1"));
        }
        refused("a send " + Texts.raised("g", 19, "lot 0"), 7 + 7 + 18 * 6 + 1);
        refused("a send " + Texts.raised("g", 19, "key 1"), 7 + 7 + 18 * 6 + 1);
        refused("a send " + Texts.raised("g", 20, "lot 0"), 7 + 7 + 18 * 6 + 1);
        refused("a send raise(g" + Texts.times(18, ",lot 0", "") + ",g)", 7 + 7 + 18 * 6 + 1);
        String eighteen = Texts.sized(18, "g");
        taken("a send raise(" + eighteen + ",lot 0)");
        refused("a send raise(" + eighteen + ",lot 0,lot 0)", 13 + eighteen.length() + 7);
        String nineteen = Texts.sized(19, "g");
        refused("a send raise(" + nineteen + ",key 0)", 13 + nineteen.length() + 1);
        taken("a send pair(raise(g" + Texts.times(16, ",lot 0", "") + "),g)");
        refused("a send pair(raise(g" + Texts.times(17, ",lot 0", "") + "),g)", 12 + 7 + 17 * 6 + 2);
    }

    private static void wordsAlone() {
        CHECK.says("SHELF: TERMS told by such TEXTS (a TERM alone ..)");
        for (String call : ALONE) {
            for (int n = 19; n <= 20; n++) {
                alone(call, Texts.sized(n, "g"), -1);
                alone(call, Texts.raised("g", n - 2, "lot 0"), -1);
            }
            String more = Texts.sized(21, "g");
            alone(call, more, placeOfWord(more, 0, 21));
            alone(call, Texts.raised("g", 19, "lot 0"), 7 + 18 * 6 + 1);
        }
    }

    private static void bracketsAlone() {
        CHECK.says("SHELF: TERMS told by such TEXTS (a TERM alone ..)");
        for (String call : ALONE) {
            alone(call, Texts.sums(5, "g"), -1);
            alone(call, Texts.sums(6, "g"), -1);
            alone(call, Texts.sums(7, "g"), 6 * 4 + 3);
            alone(call, "", 0);
            alone(call, "   ", 3);
            alone(call, "g g", 2);
            alone(call, "g;g", 1);
            alone(call, "a send g", 0);
            alone(call, "lot 2", -1);
            alone(call, "lot 3", 4);
            alone(call, blanks(399) + "g", -1);
            alone(call, blanks(400), 400);
            alone(call, "raise(g)", 7);
            alone(call, "hole 0", 0);
            alone(call, "pair(g,hole 3)", 7);
            alone(call, "pair(g,hole", 7);
        }
    }

    // ---- FREE ones ----

    private static void freeOnes() {
        CHECK.says("two FREE ones at most in a LINE (FAULT at the \"x\" of the third)");
        taken("a take g");
        taken("a take x 0");
        taken("a take pair(x 0,x 1)");
        taken("a take pair(x 3,x 2)");
        refused("a take pair(x 0,pair(x 1,x 2))", 25);
        refused("a take pair(pair(x 3,x 2),x 1)", 26);
        refused("a take pair(x 0,pair(x 1,pair(x 2,x 3)))", 30);
        taken("a take pair(x 0,pair(x 1,pair(x 0,x 1)))");
        taken("a take pair(x 0,pair(x 0,pair(x 0,x 0)))");
        refused("a take pair(x 0,pair(x 0,pair(x 1,x 3)))", 34);
        refused("a take pair(x 0,pair(x 1,sum(raise(x 2,lot 0))))", 35);
        CHECK.says("\"x\" is FREE in a \"take\", if it is in no \"take\" of its COLUMN ahead of that LINE");
        taken("a take x 0;a take pair(x 0,pair(x 1,x 2))");
        refused("a take x 0;a take pair(x 3,pair(x 1,x 2))", 36);
        taken("a take pair(x 0,x 1);a take pair(pair(x 0,x 1),pair(x 2,x 3))");
        refused("b take x 0;a take pair(x 0,pair(x 1,x 2))", 36);
        taken("b take pair(x 0,x 1);a take pair(x 2,x 3)");
        taken("a take x 0;b send g;a take pair(x 0,pair(x 1,x 2));b take pair(x 2,x 3)");
        refused("a take pair(x 0,pair(x 1,x 2));a take x 0", 25);
    }

    private static void freeOutside() {
        CHECK.says("in another ACT it must not be (FAULT at the \"x\")");
        for (String act : new String[] {"send", "show", "sure"}) {
            for (int n = 0; n < 4; n++) {
                refused("a " + act + " x " + n, 7);
                refused("a " + act + " pair(g,x " + n + ")", 14);
                refused("a " + act + " raise(x " + n + ",lot 0)", 13);
                taken("a take x " + n + ";a " + act + " x " + n);
                refused("a take x " + n + ";b " + act + " x " + n, 18);
                refused("a " + act + " x " + n + ";a take x " + n, 7);
                refused("a take x " + (n + 1) % 4 + ";a " + act + " x " + n, 18);
            }
            taken("a take pair(x 1,x 0);a " + act + " pair(x 0,x 1)");
            taken("a take x 0;a take x 1;a take x 2;a take x 3;a " + act + " pair(pair(x 0,x 1),pair(x 2,x 3))");
        }
    }

    /** The number is read ahead of the question whether its x is FREE: without it there is no such x. */
    private static void freeNumbers() {
        CHECK.says("FAULT: the first TOKEN that can't go on there");
        refused("a send x 4", 9);
        refused("a take x 0;a send x 4", 20);
        refused("a take x 4", 9);
        refused("a take x", 8);
        refused("a take x g", 9);
        refused("a take pair(x 0,pair(x 1,x 4))", 27);
        CHECK.says("no \"x\", no \"hole\": FAULT at it");
        for (String call : new String[] {"have", "make", "same"}) {
            alone(call, "x 0", 0);
            alone(call, "x 3", 0);
            alone(call, "x 4", 0);
            alone(call, "x", 0);
            alone(call, "raise(x 0,lot 0)", 6);
            alone(call, "sum( x 0)", 5);
        }
    }

    private static void holes() {
        CHECK.says("nor \"hole\" in a \"take\" (FAULT at it)");
        for (String column : new String[] {"a", "b"}) {
            for (int n = 0; n < 3; n++) {
                taken(column + " send hole " + n);
                taken(column + " show sum(hole " + n + ")");
                taken(column + " sure raise(hole " + n + ",lot 0)");
                refused(column + " take hole " + n, 7);
                refused(column + " take pair(x 0,hole " + n + ")", 16);
            }
            refused(column + " take hole 3", 7);
            refused(column + " take hole", 7);
            refused(column + " send hole 3", 12);
            refused(column + " send hole", 11);
        }
    }

    private static void unlikeHoles() {
        CHECK.says("How many LINES (what 0), \"hole\" with unlike numbers (1) a PROTOCOL has");
        HandShakes x = CHECK.with("a send g", "a send hole 2", "a send pair(hole 0,hole 0);b send hole 0", "a send hole 1;b send hole 2",
                "a send pair(hole 0,pair(hole 1,hole 2));b send pair(hole 0,pair(hole 1,hole 2))");
        int[] want = {0, 1, 1, 2, 3};
        for (int i = 0; i < want.length; i++) {
            due("lines(" + i + ", 1)", x.lines(i, 1), want[i]);
        }
        for (int what : new int[] {-1, 4, 5, Integer.MIN_VALUE, Integer.MAX_VALUE}) {
            due("lines(0, " + what + ")", x.lines(0, what), -1);
        }
        for (int protocol : new int[] {-1, 5, 6, Integer.MIN_VALUE, Integer.MAX_VALUE}) {
            due("lines(" + protocol + ", 0)", x.lines(protocol, 0), -1);
        }
    }

    private static void shelf() {
        CHECK.says("SHELF: .. 5 at most; -5 (ahead of reading it); -6");
        HandShakes x = new HandShakes();
        for (int i = 0; i < 4; i++) {
            due("shelf() " + i, Tape.shelf(x, "g"), i);
        }
        due("shelf(), unreadable, as the fifth", Tape.shelf(x, "hole 0"), -6);
        due("fault()", x.fault(), 0);
        due("count(1)", x.count(1), 4);
        due("shelf() 4", Tape.shelf(x, "lot 0"), 4);
        due("fault()", x.fault(), -1);
        due("count(1)", x.count(1), 5);
        Tape.put(x, "hole 0");
        due("shelf() 5, unreadable", x.shelf(), -5);
        due("fault(): it was not read", x.fault(), -1);
        due("count(5): it was not read", x.count(5), 6);
        due("shelf() 5", Tape.shelf(x, "g"), -5);
        due("count(1)", x.count(1), 5);
        due("status()", x.status(), -5);
    }

    private static void shelfTerms() {
        CHECK.says("a TERM alone, without \"hole\"; \"x\" not asked");
        alone("shelf", "x 0", -1);
        alone("shelf", "x 3", -1);
        alone("shelf", "x 4", 2);
        alone("shelf", "pair(pair(x 0,x 1),pair(x 2,x 3))", -1);
        alone("shelf", "raise(x 0,lot 0)", -1);
        alone("shelf", "pair(x 0,hole 0)", 9);
    }

    private static void endsFault() {
        CHECK.says("(the end's: the TEXT's length)");
        String whole = "a send pair(g,raise(sum(g),lot 0,key 1))";
        for (int n = 0; n < whole.length(); n++) {
            String text = whole.substring(0, n);
            HandShakes x = new HandShakes();
            due("protocol() '" + text + "'", Tape.protocol(x, text), -6);
            String rest = text.replaceAll("[a-z]+$", "");
            String word = text.substring(rest.length());
            boolean whether = word.isEmpty() || " a send pair g raise sum lot key ".contains(" " + word + " ");
            due("fault() of '" + text + "'", x.fault(), whether ? n : rest.length());
            due("protocol() '" + text + "   '", Tape.protocol(x, text + "   "), -6);
            due("fault() of '" + text + "   '", x.fault(), whether ? n + 3 : rest.length());
        }
        taken(whole);
        CHECK.says("-6 (blanks alone: FAULT at the end)");
        for (int n : new int[] {0, 1, 2, 19, 20, 21, 399, 400}) {
            refused(blanks(n), n);
        }
    }
}
