/** The promises of the document one by one: ordinary inputs, the edges that it names, wrong inputs. */
public final class PromiseTest {
    private static final String PLAIN = "a send raise(g,lot 0);a take x 0;a sure raise(x 0,lot 0);"
            + "b take x 0;b send raise(g,lot 0);b sure raise(x 0,lot 0)";
    private static final String SHOWN = "a send raise(g,lot 0);a take x 0;a show sum(pair(raise(g,lot 0),x 0));"
            + "a sure raise(x 0,lot 0);b take x 0;b send raise(g,lot 0);b show sum(pair(x 0,raise(g,lot 0)));"
            + "b sure raise(x 0,lot 0)";
    private static int wrong = 0;
    private static int promise = 0;

    private PromiseTest() {
    }

    public static void main(String[] args) {
        newObject();
        feedAndEnd();
        protocolText();
        protocolFree();
        protocolFull();
        shelf();
        fault();
        lines();
        have();
        make();
        same();
        clear();
        prove();
        proveBySize();
        proveRooms();
        weakest();
        share();
        shareFits();
        found();
        course();
        last();
        fill();
        filled();
        luck();
        vouch();
        back();
        sure();
        hangs();
        rules();
        comeAndGo();
        group();
        images();
        count();
        status();
        System.out.println(wrong == 0 ? "all promises hold" : wrong + " answers are not as due");
        if (wrong != 0) {
            System.exit(1);
        }
    }

    private static void due(String call, long got, long want) {
        if (got != want) {
            wrong++;
            System.out.println("promise " + promise + ": " + call + " answered " + got + ", due is " + want);
        }
    }

    private static HandShakes of(int number) {
        promise = number;
        return new HandShakes();
    }

    private static HandShakes with(int number, String... texts) {
        HandShakes x = of(number);
        for (int i = 0; i < texts.length; i++) {
            due("protocol() " + texts[i], Tape.protocol(x, texts[i]), i);
        }
        return x;
    }

    private static void newObject() {
        HandShakes x = of(1);
        for (int what = 0; what < 6; what++) {
            due("count(" + what + ")", x.count(what), 0);
        }
        due("status()", x.status(), 0);
        due("fault()", x.fault(), -1);
        due("group(0, 0)", x.group(0, 0), 0);
        due("group(1, 0)", x.group(1, 0), -1);
        due("sure(0, 1)", x.sure(0, 1, 399, 399), -1);
        due("found(0)", x.found(0), -1);
        due("filled(0)", x.filled(0), -1);
        due("clear()", x.clear(), 0);
        due("NONE", HandShakes.NONE, -1);
    }

    private static void feedAndEnd() {
        HandShakes x = of(2);
        for (int i = 1; i <= 20; i++) {
            due("feed " + i, x.feed(0, 0, 0, 0, 0), 20L * i);
        }
        due("feed 21", x.feed(0, 0, 0, 0, 0), -1);
        due("count(5)", x.count(5), 400);
        due("end(381)", x.end(381), 381);
        due("feed behind 381", x.feed(1, 2, 3, 4, 5), -1);
        due("end(380)", x.end(380), 380);
        due("feed behind 380", x.feed(1, 2, 3, 4, 5), 400);
        promise = 3;
        due("end(401)", x.end(401), -1);
        due("end(-1)", x.end(-1), -1);
        due("end(400)", x.end(400), 400);
        due("end(0)", x.end(0), 0);
        due("end(1)", x.end(1), -1);
        promise = 2;
        // The highest byte comes first: "key " "0   " and so on; the fifth number is the last one.
        x.feed(0x6b657920, 0x30202020, 0x20202020, 0x20202020, 0x20202030);
        due("end(19)", x.end(19), 19);
        due("have()", x.have(), 1);
        x.feed(0x6b657920, 0x30202020, 0x20202020, 0x20202020, 0x20202030);
        due("have() with a digit more", x.have(), -6);
        due("fault()", x.fault(), 19);
    }

    private static void refusedAt(String text, int place) {
        HandShakes x = new HandShakes();
        due("protocol() '" + text + "'", Tape.protocol(x, text), -6);
        due("fault() of '" + text + "'", x.fault(), place);
        due("count(5) behind '" + text + "'", x.count(5), 0);
        due("count(0) behind '" + text + "'", x.count(0), 0);
    }

    private static void taken(String text) {
        HandShakes x = new HandShakes();
        due("protocol() '" + text + "'", Tape.protocol(x, text), 0);
        due("fault() of '" + text + "'", x.fault(), -1);
        due("count(5) behind '" + text + "'", x.count(5), 0);
    }

    private static void protocolText() {
        promise = 4;
        taken("a send g");
        taken("  a   send  g  ");
        taken("b sure name1");
        taken("a send raise(g,key1,lot2,lot 2)");
        taken("a send lot 02");
        taken("a send g;b take g;a send hole 0;b show hole 2");
        refusedAt("", 0);
        refusedAt("     ", 5);
        refusedAt("a", 1);
        refusedAt("a ", 2);
        refusedAt("asend g", 0);
        refusedAt("A send g", 0);
        refusedAt("a Send g", 2);
        refusedAt("a sendg", 2);
        refusedAt("a send  ", 8);
        refusedAt("a send h", 7);
        refusedAt("a send gg", 7);
        refusedAt("a send name 2", 12);
        refusedAt("a send name x", 12);
        refusedAt("a send key", 10);
        refusedAt("a send key 2", 11);
        refusedAt("a send lot 3", 11);
        refusedAt("a take x 4", 9);
        refusedAt("a send hole 3", 12);
        refusedAt("a send lot 4294967296", 11);
        refusedAt("a send lot 18446744073709551616", 11);
        refusedAt("a send pair g", 12);
        refusedAt("a send pair(g)", 13);
        refusedAt("a send pair(g,g", 15);
        refusedAt("a send pair(g,g,g)", 15);
        refusedAt("a send sum(g,g)", 12);
        refusedAt("a send sum()", 11);
        refusedAt("a send raise(g)", 14);
        refusedAt("a send raise(g,g)", 15);
        refusedAt("a send raise(g,name 0)", 15);
        refusedAt("a send raise(g,lot 0,)", 21);
        refusedAt("a send raise(g,key 2)", 19);
        refusedAt("a send raise(g,lot 3)", 19);
        refusedAt("a send g\n", 8);
        refusedAt("a send g;", 9);
        refusedAt("a send g;;", 9);
        refusedAt("a send g;c", 9);
        refusedAt("a send g b", 9);
        refusedAt("a send \u00e9", 7);
        taken(Texts.times(12, "a send g", ";"));
        refusedAt(Texts.times(13, "a send g", ";"), 12 * 9);
        refusedAt(Texts.times(12, "a send g", ";") + ";", 12 * 9);
        taken("a sure g;b sure g");
        refusedAt("a sure g;b sure g;a sure g", 20);
        // 20 words: raise, g and 18 ATOMS; the 21st is at fault.
        taken("a send raise(g" + Texts.times(18, ",lot 0", "") + ")");
        refusedAt("a send raise(g" + Texts.times(19, ",lot 0", "") + ")", 7 + 7 + 18 * 6 + 1);
        // 11 words each: the 21st is the last pair of the second one.
        String eleven = "pair(pair(pair(g,g),pair(g,g)),pair(g,g))";
        refusedAt("a send pair(" + eleven + "," + eleven + ")", 7 + 5 + 41 + 1 + 31);
        taken("a send sum(sum(sum(sum(sum(sum(g))))))");
        refusedAt("a send sum(sum(sum(sum(sum(sum(sum(g)))))))", 7 + 6 * 4 + 3);
    }

    private static void protocolFree() {
        promise = 4;
        refusedAt("a send x 0", 7);
        refusedAt("a show pair(g,x 3)", 14);
        refusedAt("a sure x 0", 7);
        refusedAt("b take x 0;a send x 0", 18);
        refusedAt("a send g;a take x 1;a send x 0", 27);
        taken("a take x 0;a send x 0");
        taken("a take pair(x 0,x 0);a take pair(x 0,pair(x 1,x 2))");
        taken("a take pair(x 3,pair(x 1,x 3))");
        refusedAt("a take pair(x 0,pair(x 1,x 2))", 25);
        refusedAt("a take x 0;a take pair(x 1,pair(x 0,pair(x 2,x 3)))", 45);
        refusedAt("a take hole 0", 7);
        refusedAt("a take pair(g,hole 9)", 14);
    }

    private static void protocolFull() {
        HandShakes x = of(4);
        for (int i = 0; i < 6; i++) {
            due("protocol() " + i, Tape.protocol(x, "a send g"), i);
        }
        Tape.put(x, "a send");
        due("protocol() 6", x.protocol(), -5);
        due("fault(): it was not read", x.fault(), -1);
        due("count(5): it was not read", x.count(5), 6);
        due("count(0)", x.count(0), 6);
    }

    private static void shelf() {
        HandShakes x = of(5);
        due("shelf() x", Tape.shelf(x, "pair(x 0,pair(x 1,pair(x 2,x 3)))"), 0);
        due("shelf() hole", Tape.shelf(x, "pair(g,hole 0)"), -6);
        due("fault()", x.fault(), 7);
        due("shelf() a line", Tape.shelf(x, "a send g"), -6);
        due("fault()", x.fault(), 0);
        due("shelf() two", Tape.shelf(x, "g;g"), -6);
        due("fault()", x.fault(), 1);
        due("shelf() blanks", Tape.shelf(x, "  "), -6);
        due("fault()", x.fault(), 2);
        due("shelf() x 4", Tape.shelf(x, "x 4"), -6);
        due("fault()", x.fault(), 2);
        for (int i = 1; i < 5; i++) {
            due("shelf() " + i, Tape.shelf(x, "g"), i);
        }
        due("shelf() 5", Tape.shelf(x, "nothing"), -5);
        due("count(1)", x.count(1), 5);
        due("count(5)", x.count(5), 7);
    }

    private static void fault() {
        HandShakes x = of(6);
        due("fault()", x.fault(), -1);
        Tape.protocol(x, "a send");
        due("fault() of protocol()", x.fault(), 6);
        Tape.shelf(x, "sum(");
        due("fault() of shelf()", x.fault(), 4);
        Tape.have(x, "pair(g,x 0)");
        due("fault() of have()", x.fault(), 7);
        Tape.make(x, "g g");
        due("fault() of make()", x.fault(), 2);
        Tape.same(x, "q");
        due("fault() of same()", x.fault(), 0);
        x.prove(0, 1, 0);
        x.vouch(0, 0, 0, 0, 0);
        due("fault() stays", x.fault(), 0);
        Tape.same(x, "g");
        due("fault() is gone", x.fault(), -1);
    }

    private static void lines() {
        HandShakes x = with(7, "a send hole 0;b show pair(hole 2,hole 0);a send hole 2;a sure g", "b send g");
        due("lines(0, 0)", x.lines(0, 0), 4);
        due("lines(0, 1)", x.lines(0, 1), 2);
        due("lines(0, 2)", x.lines(0, 2), 3);
        due("lines(0, 3)", x.lines(0, 3), 1);
        due("lines(0, 4)", x.lines(0, 4), -1);
        due("lines(0, -1)", x.lines(0, -1), -1);
        due("lines(1, 1)", x.lines(1, 1), 0);
        due("lines(1, 2)", x.lines(1, 2), 0);
        due("lines(1, 3)", x.lines(1, 3), 1);
        due("lines(2, 0)", x.lines(2, 0), -1);
        due("lines(-1, 0)", x.lines(-1, 0), -1);
        due("lines(least, 0)", x.lines(Integer.MIN_VALUE, 0), -1);
        due("lines(most, 0)", x.lines(Integer.MAX_VALUE, 0), -1);
    }

    private static void have() {
        HandShakes x = of(8);
        due("have() x", Tape.have(x, "x 0"), -6);
        due("have() hole", Tape.have(x, "sum(hole 0)"), -6);
        due("fault()", x.fault(), 4);
        due("have() nothing", Tape.have(x, ""), -6);
        for (int i = 1; i <= 20; i++) {
            due("have() " + i, Tape.have(x, "lot " + i % 3), i);
        }
        due("have() 21", Tape.have(x, "x"), -5);
        due("fault()", x.fault(), -1);
        due("count(5)", x.count(5), 1);
        due("count(2)", x.count(2), 20);
    }

    private static void make() {
        HandShakes x = of(9);
        due("make() g", Tape.make(x, "g"), 0);
        due("make() name 0", Tape.make(x, "name 0"), 0);
        due("make() bad", Tape.make(x, "name 2"), -1);
        due("count(5)", x.count(5), 0);
        Tape.have(x, "seal(seal(lot 2,lot 1),sum(pair(key 0,key 1)))");
        Tape.have(x, "seal(lot 1,lot 2)");
        Tape.have(x, "pair(key 0,seal(key 1,key 0))");
        due("make() key 1 by key 0", Tape.make(x, "key 1"), 1);
        due("make() seal(lot 2,lot 1)", Tape.make(x, "seal(lot 2,lot 1)"), 1);
        due("make() lot 2, which asks for lot 1 and round", Tape.make(x, "lot 2"), 0);
        due("make() lot 1", Tape.make(x, "lot 1"), 0);
        due("make() seal(lot 1,lot 2), as it is", Tape.make(x, "seal(lot 1,lot 2)"), 1);
        due("make() seal(lot 1,key 0)", Tape.make(x, "seal(lot 1,key 0)"), 0);
        Tape.have(x, "raise(g,lot 0,lot 0,key 0)");
        due("make() raise as had", Tape.make(x, "raise(raise(g,lot 0),key 0,lot 0)"), 1);
        due("make() raise by more", Tape.make(x, "raise(g,key 1,lot 0,lot 0,key 0)"), 1);
        due("make() raise by fewer", Tape.make(x, "raise(g,lot 0,key 0)"), 0);
        due("make() raise by more lots", Tape.make(x, "raise(g,lot 0,lot 0,lot 0,key 0)"), 0);
        due("make() raise of another", Tape.make(x, "raise(name 0,lot 0,lot 0,key 0)"), 0);
        due("make() raise of what is made", Tape.make(x, "raise(sum(key 0),key 0,key 1)"), 1);
        due("make() raise of g", Tape.make(x, "raise(g,key 0)"), 0);
        Tape.have(x, "g");
        due("make() raise of g", Tape.make(x, "raise(g,key 0)"), 1);
        Tape.have(x, "sum(lot 2)");
        due("make() what is in a sum", Tape.make(x, "lot 2"), 0);
        due("make() sum as had", Tape.make(x, "pair(sum(lot 2),sum(sum(lot 2)))"), 1);
    }

    private static void same() {
        HandShakes x = of(10);
        due("same() first", Tape.same(x, "g"), -1);
        due("same()", Tape.same(x, "g"), 1);
        due("same() bad", Tape.same(x, "gg"), -1);
        due("same() with the one ahead", Tape.same(x, " g "), 1);
        Tape.have(x, "raise(g,lot 0,key 1,lot 0)");
        due("same() raises", Tape.same(x, "raise(raise(g,lot 0,lot 0),key 1)"), 1);
        due("same() fewer", Tape.same(x, "raise(g,lot 0,key 1)"), 0);
        Tape.make(x, "pair(g,name 0)");
        due("same() order", Tape.same(x, "pair(name 0,g)"), 0);
        x.clear();
        due("same() behind clear()", Tape.same(x, "pair(name 0,g)"), 1);
        due("same() seal", Tape.same(x, "seal(name 0,g)"), 0);
        due("same() x", Tape.same(x, "x 0"), -1);
        due("count(2)", x.count(2), 0);
    }

    private static void clear() {
        HandShakes x = of(11);
        Tape.have(x, "g");
        Tape.have(x, "key 0");
        due("clear()", x.clear(), 2);
        due("clear()", x.clear(), 0);
        due("make()", Tape.make(x, "g"), 0);
        due("have()", Tape.have(x, "key 1"), 1);
        due("make()", Tape.make(x, "key 0"), 0);
    }

    private static void prove() {
        HandShakes x = with(12, PLAIN, SHOWN, "a sure g", "a sure lot 0;b sure lot 0", "a send hole 0");
        due("prove(plain)", x.prove(0, 1, 0), 1);
        due("prove(shown)", x.prove(1, 1, 0), 0);
        due("prove(shown) with one careless", x.prove(1, 1, 1), 1);
        due("prove(sure g)", x.prove(2, 1, 0), 1);
        due("prove(sure of unlike lots)", x.prove(3, 1, 0), 1);
        due("found(2)", x.found(2), -1);
        due("prove(hole)", x.prove(4, 1, 0), -1);
        due("prove(5)", x.prove(5, 1, 0), -1);
        due("prove(-1)", x.prove(-1, 1, 0), -1);
        due("prove(0 rooms)", x.prove(0, 0, 0), -1);
        due("prove(3 rooms)", x.prove(0, 3, 0), -1);
        due("prove(-1 careless)", x.prove(0, 1, -1), -1);
        due("prove(4 careless)", x.prove(0, 1, 4), -1);
        due("found(0): the latest stays", x.found(0), 1);
        // 24 CANDIDATES at most, in order; both x of a TAKE: 1 + 6 * 6 STATES, as nothing is sent.
        x = with(12, "a take pair(x 0,x 1)", "a take pair(x 0,x 1);b take pair(x 0,x 1)",
                "a take x 0;a take x 1;a take x 2;a take x 3;b take x 0;b take x 1;b take x 2;b take x 3",
                "a take pair(x 0,x 1);b take pair(x 1,x 2);b take x 3",
                "a send pair(sum(name 0),pair(sum(sum(name 0)),pair(sum(name 1),sum(sum(name 1)))));"
                        + "a send pair(sum(g),pair(sum(sum(g)),pair(seal(g,g),sum(seal(g,g)))));a take x 0",
                "a send pair(sum(name 0),pair(sum(sum(name 0)),pair(sum(name 1),sum(sum(name 1)))));"
                        + "a send pair(sum(g),pair(sum(sum(g)),pair(seal(g,g),sum(seal(g,g)))));"
                        + "a send pair(sum(sum(sum(g))),pair(seal(g,name 0),pair(seal(name 0,g),sum(seal(g,name 0)))));a take x 0");
        due("prove(two x)", x.prove(0, 1, 0), 0);
        due("found(0)", x.found(0), 37);
        HandShakes two = with(12, "a take pair(x 3,x 1);a sure x 3");
        due("prove(sure of the other x)", two.prove(0, 1, 0), 1);
        due("found(0)", two.found(0), 2);
        due("course(0, 1)", two.course(0, 1), 0);
        due("course(0, 2)", two.course(0, 2), 0);
        due("prove(two x on both sides)", x.prove(1, 1, 0), 2);
        due("found(0)", x.found(0), 400);
        due("prove(two x in two rooms)", x.prove(0, 2, 0), 2);
        due("found(0)", x.found(0), 400);
        due("prove(eight x)", x.prove(2, 1, 0), 2);
        due("prove(five x)", x.prove(3, 1, 0), 2);
        due("prove(many parts)", x.prove(4, 1, 0), 0);
        due("found(0): 6 CANDIDATES, 7 unlike ones of the first, 8 of the second", x.found(0), 1 + 6 + 7 + 8);
        due("prove(too many parts)", x.prove(5, 1, 0), 0);
        due("found(0): 28 would be, 24 are", x.found(0), 1 + 24);
    }

    private static void proveBySize() {
        String fifteen = "pair(pair(pair(lot 0,lot 0),pair(lot 0,lot 0)),pair(pair(lot 0,lot 0),pair(lot 0,lot 0)))";
        String fourteen = fifteen.substring(0, fifteen.length() - "pair(lot 0,lot 0)))".length()) + "sum(lot 0)))";
        // What is in the SEAL is the only thing that b can take for x: each of these has two STATES.
        HandShakes x = with(12, "a send seal(" + fifteen + ",key 0);b take seal(x 0,key 0);b send pair(x 0,x 0);b sure g",
                "a send seal(" + fourteen + ",key 0);b take seal(x 0,key 0);b send pair(x 0,sum(x 0));b sure g",
                "a send seal(" + fourteen + ",key 0);b take seal(x 0,key 0);b show pair(x 0,sum(sum(x 0)));a show g;b sure g",
                "a send seal(" + fourteen + ",key 0);b take seal(x 0,key 0);b sure pair(sum(sum(x 0)),x 0);b send key 0",
                "a send seal(" + fifteen + ",key 0);b take seal(pair(x 0,lot 1),key 0)");
        due("prove: a send of 31", x.prove(0, 1, 0), 0);
        due("found(0)", x.found(0), 2);
        due("prove: a send of 30", x.prove(1, 1, 0), 1);
        due("found(0)", x.found(0), 2);
        due("last: three LINES", x.last(0, 1, 0), 3);
        due("prove: a show of 31, all careless", x.prove(2, 1, 3), 0);
        due("found(0)", x.found(0), 2);
        due("prove: a sure of 31 ahead of a send that tells all", x.prove(3, 1, 0), 0);
        due("prove: the lot of another END", x.prove(4, 1, 0), 0);
        due("found(0)", x.found(0), 1);
        x = with(12, "a send seal(" + fifteen + ",key 0);b take seal(x 0,key 0);b sure g;b send pair(x 0,x 0)");
        due("prove: SURE, then a send of 31", x.prove(0, 1, 0), 1);
        due("last(0, 1, 0)", x.last(0, 1, 0), 2);
        due("last(0, 1, 1)", x.last(0, 1, 1), 1);
        // A take of 31 is not taken, but the END does not STOP at it.
        x = with(12, "a send pair(" + fourteen + ",name 1);b take pair(x 0,name 1);b take pair(x 0,sum(sum(x 0)));b sure g;a take x 0;a sure g",
                "b take x 0;b take pair(x 0,x 0);b sure g");
        due("prove: takes", x.prove(1, 1, 0), 1);
        due("found(1)", x.found(1), 2);
        due("prove: a take of 31", x.prove(0, 1, 0), 1);
        due("found(1)", x.found(1), 1);
        due("course(0, 0)", x.course(0, 0), 0);
        due("last(0, 1, 1)", x.last(0, 1, 1), 0);
    }

    private static void proveRooms() {
        // What a sends in one ROOM can be taken in the other one: only two ROOMS cheat.
        HandShakes x = with(12, "a send seal(lot 0,key 0);a take seal(pair(lot 0,x 0),key 0);a send x 0;"
                + "b take seal(x 0,key 0);b send seal(pair(x 0,lot 0),key 0);b take lot 0;b sure lot 1;a sure lot 1");
        due("prove in one room", x.prove(0, 1, 0), 1);
        due("found(2): unlike lots", x.found(2), -1);
        x = with(12, "a take seal(x 0,key 0);a send x 0;b send seal(lot 0,key 0);b sure lot 0",
                "a send seal(lot 0,key 0);b take seal(x 0,key 0);b sure x 0;a sure lot 0");
        due("prove(an opener)", x.prove(0, 1, 0), 1);
        due("found(2)", x.found(2), 1);
        due("prove(a sender) in one room", x.prove(1, 1, 0), 0);
        for (int lot = 0; lot < 3; lot++) {
            for (String column : new String[] {"a", "b"}) {
                HandShakes own = with(12, column + " sure lot " + lot, column + " sure key 1", column + " sure name 1");
                due("prove(sure of a lot) in two rooms", own.prove(0, 2, 0), 0);
                due("prove(sure of a key) in two rooms", own.prove(1, 2, 0), 0);
                due("prove(sure of a name) in two rooms", own.prove(2, 2, 0), 1);
            }
        }
        due("prove(a sender) in two rooms", x.prove(1, 2, 0), 1);
        due("found(1)", x.found(1), 1);
        due("found(2)", x.found(2), -1);
        due("course(0, 0): b of room 0", x.course(0, 0), 1);
        // 0 .. 5, then SEAL, lot, key of room 0 (6, 7, 8), SEAL of room 1 (9), its lot (10).
        due("course(0, 1): room 1's lot", x.course(0, 1), 10);
        due("last(1, 0, 2)", x.last(1, 0, 2), 1);
        due("last(1, 1, 2)", x.last(1, 1, 2), 0);
        due("last(1, 1, 0)", x.last(1, 1, 0), 0);
        due("last(0, 1, 0)", x.last(0, 1, 0), 2);
    }

    private static void weakest() {
        HandShakes x = with(13, PLAIN, SHOWN, "a send hole 0", "a show lot 0;b show lot 0;a show lot 1;b show lot 1;a sure g",
                "a send g", "a take pair(x 0,x 1);b take pair(x 0,x 1)");
        due("prove()", x.prove(4, 1, 0), 0);
        due("weakest(plain)", x.weakest(0), 0);
        due("weakest(shown)", x.weakest(1), 1);
        due("weakest(hole)", x.weakest(2), -1);
        due("weakest(two shows)", x.weakest(3), 2);
        due("weakest(never)", x.weakest(4), 4);
        due("weakest(spent)", x.weakest(5), 0);
        String shows = Texts.times(3, "a show lot 0;b show lot 0", ";");
        HandShakes three = with(13, shows + ";a sure g", shows + ";a show lot 1;b show lot 1;a sure g");
        due("weakest(three shows)", three.weakest(0), 3);
        due("weakest(four shows)", three.weakest(1), 4);
        due("weakest(6)", x.weakest(6), -1);
        due("weakest(-1)", x.weakest(-1), -1);
        due("found(0): the latest stays", x.found(0), 1);
        due("found(1): the latest stays", x.found(1), 0);
    }

    private static void share() {
        HandShakes x = with(14, SHOWN, PLAIN, Texts.times(8, "a send g", ";"), Texts.times(9, "a send g", ";"),
                "a send g;b take g;b sure g;a show lot 0;b show lot 0", "a send hole 0");
        for (int kind = 0; kind < 4; kind++) {
            due("share(0, 0) " + kind, x.share(0, 0, 0, kind, 0), kind == 0 ? 1 : 0);
            due("share(0, 0) by " + kind, x.share(0, 0, 0, kind, 1), 1);
        }
        due("share(25 lost)", x.share(0, 25, 0, 0, 0), 9);
        due("share(25 lost) by", x.share(0, 25, 0, 0, 1), 16);
        due("share(25 lost, 20 misread)", x.share(0, 25, 20, 0, 0), 9);
        due("share(25 lost, 20 misread) by", x.share(0, 25, 20, 0, 1), 20);
        due("share(25 lost, 20 misread) none", x.share(0, 25, 20, 3, 0), 11);
        due("share(1, 3)", x.share(0, 1, 3, 0, 0), 9801L * 97 / 1);
        due("share(1, 3) by", x.share(0, 1, 3, 0, 1), 1000000);
        due("share(plain, one alone)", x.share(1, 10, 0, 2, 0), 9);
        due("share(plain, one alone) by", x.share(1, 10, 0, 2, 1), 100);
        due("share(100 lost)", x.share(1, 100, 0, 3, 0), 1);
        due("share(100 lost) by", x.share(1, 100, 0, 3, 1), 1);
        due("share(8 events)", x.share(2, 50, 0, 3, 0), 1);
        due("share(9 events)", x.share(3, 50, 0, 3, 0), -1);
        due("share(unlike show)", x.share(4, 40, 7, 2, 0), 3);
        due("share(unlike show) by", x.share(4, 40, 7, 2, 1), 5);
        due("share(hole)", x.share(5, 0, 0, 0, 0), -1);
        due("share(none)", x.share(6, 0, 0, 0, 0), -1);
        due("share(lost -1)", x.share(0, -1, 0, 0, 0), -1);
        due("share(lost 101)", x.share(0, 101, 0, 0, 0), -1);
        due("share(misread -1)", x.share(0, 0, -1, 0, 0), -1);
        due("share(misread 101)", x.share(0, 0, 101, 0, 0), -1);
        due("share(kind -1)", x.share(0, 0, 0, -1, 0), -1);
        due("share(kind 4)", x.share(0, 0, 0, 4, 0), -1);
        due("share(what -1)", x.share(0, 0, 0, 0, -1), -1);
        due("share(what 2)", x.share(0, 0, 0, 0, 2), -1);
    }

    private static void fits(String take, String sent, int want) {
        HandShakes x = with(14, "b send " + sent + ";a take " + take + ";a sure g");
        due("whether " + sent + " fits " + take, x.share(0, 0, 0, 2, 0), want);
    }

    private static void shareFits() {
        promise = 14;
        fits("x 0", "pair(lot 0,g)", 1);
        fits("g", "g", 1);
        fits("g", "name 0", 0);
        fits("lot 0", "lot 0", 0);
        fits("key 0", "key 0", 1);
        fits("pair(x 0,x 0)", "pair(lot 0,lot 0)", 1);
        fits("pair(x 0,x 0)", "pair(lot 0,lot 1)", 0);
        fits("pair(x 0,x 1)", "seal(lot 0,lot 1)", 0);
        fits("seal(x 0,key 0)", "seal(lot 0,key 0)", 1);
        fits("seal(x 0,key 0)", "seal(lot 0,key 1)", 0);
        fits("seal(x 0,x 1)", "seal(lot 0,key 1)", 1);
        fits("sum(x 0)", "sum(lot 0)", 0);
        fits("sum(key 0)", "sum(key 0)", 1);
        fits("pair(x 0,sum(x 0))", "pair(lot 0,sum(lot 0))", 1);
        fits("pair(x 0,sum(x 0))", "pair(lot 0,sum(lot 1))", 0);
        fits("pair(sum(x 0),x 0)", "pair(sum(lot 0),lot 0)", 0);
        fits("sum(pair(x 0,x 0))", "sum(pair(lot 0,lot 0))", 0);
        fits("raise(x 0,key 0)", "raise(g,key 0)", 0);
        fits("pair(x 0,raise(x 0,key 0))", "pair(g,raise(g,key 0))", 1);
        fits("pair(x 0,raise(x 0,key 0))", "pair(raise(g,lot 0),raise(g,lot 0,key 0))", 1);
        fits("raise(g,key 0,key 1)", "raise(raise(g,key 1),key 0)", 1);
        fits("pair(x 1,x 0)", "pair(raise(g,lot 0),sum(lot 1))", 1);
        // A TERM that does not fit is taken all the same: the END STOPS; of a LOST one it knows nothing.
        HandShakes x = with(14, "b send name 0;b send g;a take g;a sure g", "b send g;b send g;a take g;a sure g",
                "a take x 0;a sure x 0;b send g;b sure name 0", "a take g;b take g;a sure g;b sure g");
        due("share: the second one alone fits", x.share(0, 10, 0, 2, 0), 9);
        due("share: the second one alone fits, by", x.share(0, 10, 0, 2, 1), 100);
        due("share: one of two", x.share(1, 10, 0, 2, 0), 99);
        due("share: both, of unlike ones", x.share(2, 10, 0, 1, 0), 9);
        due("share: one alone", x.share(2, 10, 0, 2, 0), 1);
        due("share: both wait", x.share(3, 10, 0, 3, 0), 1);
    }

    private static void found() {
        HandShakes x = with(15, PLAIN, SHOWN, "b sure g;a sure name 0", "a sure lot 0;b sure lot 0");
        due("found(0) without a latest", x.found(0), -1);
        x.prove(0, 1, 0);
        due("found(0)", x.found(0), 4);
        due("found(1)", x.found(1), 1);
        due("found(2)", x.found(2), 0);
        due("found(3)", x.found(3), -1);
        due("found(-1)", x.found(-1), -1);
        x.prove(1, 1, 0);
        due("found(0) proved", x.found(0), 89);
        due("found(1) proved", x.found(1), 0);
        due("found(2) proved", x.found(2), -1);
        x.prove(2, 2, 0);
        due("found(0) at once", x.found(0), 1);
        due("found(1) at once", x.found(1), 0);
        due("found(2): the first END", x.found(2), 0);
        x.prove(3, 1, 0);
        due("found(2) of unlike ones", x.found(2), -1);
    }

    private static void course() {
        HandShakes x = with(16, "a send seal(pair(lot 0,lot 1),key 0);b take name 1;b take seal(pair(x 2,x 1),key 0);b send x 1;b sure x 1",
                SHOWN);
        due("course without a latest", x.course(0, 0), -1);
        due("prove", x.prove(0, 1, 0), 1);
        due("found(1)", x.found(1), 2);
        due("course(0, 0)", x.course(0, 0), 1);
        due("course(0, 1): no x", x.course(0, 1), -1);
        due("course(0, 2): no x", x.course(0, 2), -1);
        due("course(1, 0)", x.course(1, 0), 1);
        // 6 SEAL, 7 PAIR, 8 lot 0, 9 lot 1, 10 key 0; x 1 is the lower one.
        due("course(1, 1)", x.course(1, 1), 9);
        due("course(1, 2)", x.course(1, 2), 8);
        due("course(1, 3)", x.course(1, 3), -1);
        due("course(1, -1)", x.course(1, -1), -1);
        due("course(2, 0)", x.course(2, 0), -1);
        due("course(-1, 0)", x.course(-1, 0), -1);
        due("prove", x.prove(1, 1, 0), 0);
        due("course(0, 0) proved", x.course(0, 0), -1);
        // A RAISE (6): itself, what is under it (7), its ATOMS: key 0 (8), lot 1 (9). Nine CANDIDATES can be MADE;
        // of those that can't, only this one's SUM was sent.
        x = with(16, "a send raise(g,lot 1,key 0);a send sum(pair(key 0,lot 1));a take sum(pair(x 0,x 1));"
                + "a send x 0;a send x 1;a sure key 0");
        due("prove", x.prove(0, 1, 0), 1);
        due("found(0)", x.found(0), 1 + 8 * 9 + 1);
        due("course(0, 1)", x.course(0, 1), 8);
        due("course(0, 2)", x.course(0, 2), 9);
    }

    private static void last() {
        HandShakes x = with(17, PLAIN, SHOWN, "a show lot 0;b show lot 0;a send g;b sure g;a take x 0;a send g",
                "a take x 0;a show x 0;b show lot 0;a send x 0;b sure g;b take x 0;a take x 1;a sure g");
        due("last without a latest", x.last(0, 0, 0), -1);
        x.prove(0, 1, 0);
        due("last(0, 0, 0)", x.last(0, 0, 0), 3);
        due("last(0, 0, 1)", x.last(0, 0, 1), 0);
        due("last(0, 0, 2)", x.last(0, 0, 2), 1);
        due("last(0, 0, 3)", x.last(0, 0, 3), 4);
        due("last(0, 1, 2)", x.last(0, 1, 2), 0);
        due("last(0, 1, 3)", x.last(0, 1, 3), -1);
        due("last(0, 0, 4)", x.last(0, 0, 4), -1);
        due("last(0, 0, -1)", x.last(0, 0, -1), -1);
        due("last(0, 2, 0)", x.last(0, 2, 0), -1);
        due("last(0, -1, 0)", x.last(0, -1, 0), -1);
        due("last(1, 0, 0)", x.last(1, 0, 0), -1);
        due("last(-1, 0, 0)", x.last(-1, 0, 0), -1);
        x.prove(1, 1, 0);
        due("last proved", x.last(0, 0, 0), -1);
        due("prove: two rooms, one careless", x.prove(2, 2, 1), 1);
        due("last(0, 0, 0): ahead of the take", x.last(0, 0, 0), 2);
        due("last(0, 1, 0)", x.last(0, 1, 0), 2);
        due("last(1, 0, 0): at the show", x.last(1, 0, 0), 0);
        due("last(1, 0, 1): stopped", x.last(1, 0, 1), 1);
        due("last(1, 1, 1): stopped", x.last(1, 1, 1), 1);
        due("last(1, 1, 2)", x.last(1, 1, 2), 0);
    }

    private static void fill() {
        HandShakes x = with(18, "a send lot 0;a sure hole 0;b take x 0", PLAIN,
                "a take x 0;a sure hole 2;b sure hole 0;b take x 1", "a send hole 1;b send hole 1;a sure pair(lot 0,hole 0)",
                "a sure hole 0;a take x 0");
        due("fill: nothing on the shelf", x.fill(0), -1);
        Tape.shelf(x, "sum(pair(lot 1,lot 2))");
        due("fill", x.fill(0), 4);
        Tape.shelf(x, "seal(lot 1,key 0)");
        due("fill: fewer words", x.fill(0), 3);
        due("filled(0)", x.filled(0), 1);
        Tape.shelf(x, "x 0");
        due("fill: x is free there", x.fill(0), 3);
        due("fill: x is free ahead of the take", x.fill(4), 3);
        Tape.shelf(x, "key 0");
        due("fill: one word", x.fill(0), 1);
        due("filled(0)", x.filled(0), 3);
        Tape.shelf(x, "key 1");
        due("fill: the first of alike ones", x.fill(0), 1);
        due("filled(0)", x.filled(0), 3);
        due("fill: no hole", x.fill(1), -1);
        due("fill(5)", x.fill(5), -1);
        due("fill(-1)", x.fill(-1), -1);
        due("filled(0): the latest stays", x.filled(0), 3);
        // Both must be SURE of the same: KEYS, each counted, as two holes have it.
        due("fill: two holes", x.fill(2), 2);
        due("filled(0)", x.filled(0), 3);
        due("filled(1)", x.filled(1), -1);
        due("filled(2)", x.filled(2), 3);
        // key 0 is sent by both: then pair(lot 0,key 0) is still unknown; each hole's words once.
        due("fill: a hole twice", x.fill(3), 2);
        due("filled(0)", x.filled(0), 3);
        due("filled(1)", x.filled(1), 3);
        x = with(18, "a sure hole 0;b send hole 1");
        Tape.shelf(x, "lot 1");
        due("fill: two holes, one on the shelf", x.fill(0), 2);
        due("filled(1)", x.filled(1), 0);
        x = with(18, "a sure hole 0;b send g");
        Tape.shelf(x, "g");
        Tape.shelf(x, "name 1");
        due("fill: none holds", x.fill(0), -1);
    }

    private static void filled() {
        HandShakes x = with(19, "a sure hole 1", "a sure hole 1;b send hole 1");
        due("filled(1) ahead of any", x.filled(1), -1);
        Tape.shelf(x, "g");
        Tape.shelf(x, "lot 0");
        due("fill", x.fill(0), 1);
        due("filled(1)", x.filled(1), 1);
        due("filled(0)", x.filled(0), -1);
        due("filled(3)", x.filled(3), -1);
        due("filled(-1)", x.filled(-1), -1);
        // b sends its own lot 0, of its COLUMN: a's stays unknown.
        due("fill: of its column", x.fill(1), 1);
        due("filled(1)", x.filled(1), 1);
        due("found(0): fill() is no prove()", x.found(0), -1);
    }

    private static void luck() {
        HandShakes x = of(20);
        due("luck(12, 5, 1)", x.luck(12, 5, 1), 1L << 60);
        long misses = 4095L * 4095 * 4095 * 4095 * 4095;
        due("luck(12, 5, 0)", x.luck(12, 5, 0), (1L << 60) - misses);
        due("luck(1, 60, 0)", x.luck(1, 60, 0), (1L << 60) - 1);
        due("luck(1, 60, 1)", x.luck(1, 60, 1), 1L << 60);
        due("luck(3, 1, 0)", x.luck(3, 1, 0), 1);
        due("luck(3, 1, 1)", x.luck(3, 1, 1), 8);
        due("luck(2, 3, 0)", x.luck(2, 3, 0), 37);
        due("luck(2, 3, 1)", x.luck(2, 3, 1), 64);
        due("luck(5, 0, 0)", x.luck(5, 0, 0), 0);
        due("luck(5, 0, 1)", x.luck(5, 0, 1), 1);
        due("luck(13, 1, 0)", x.luck(13, 1, 0), -1);
        due("luck(0, 1, 0)", x.luck(0, 1, 0), -1);
        due("luck(1, 61, 0)", x.luck(1, 61, 0), -1);
        due("luck(12, 6, 1)", x.luck(12, 6, 1), -1);
        due("luck(1, -1, 0)", x.luck(1, -1, 0), -1);
        due("luck(2, most, 0)", x.luck(2, Integer.MAX_VALUE, 0), -1);
        due("luck(4, 2 to the 30, 0)", x.luck(4, 1 << 30, 0), -1);
        due("luck(1, 1, 2)", x.luck(1, 1, 2), -1);
        due("luck(1, 1, -1)", x.luck(1, 1, -1), -1);
    }

    private static void vouch() {
        HandShakes x = of(21);
        due("vouch", x.vouch(0, 19, 0, 0, 399), 0);
        due("vouch", x.vouch(19, 0, 5, 399, 0), 1);
        int[][] bad = {{-1, 0, 0, 0, 0}, {20, 0, 0, 0, 0}, {0, -1, 0, 0, 0}, {0, 20, 0, 0, 0}, {0, 1, -1, 0, 0}, {0, 1, 6, 0, 0},
            {0, 1, 0, -1, 0}, {0, 1, 0, 400, 0}, {0, 1, 0, 0, -1}, {0, 1, 0, 0, 400}, {3, 3, 6, 0, 0}};
        for (int[] one : bad) {
            due("vouch(" + java.util.Arrays.toString(one) + ")", x.vouch(one[0], one[1], one[2], one[3], one[4]), -1);
        }
        due("vouch for itself", x.vouch(3, 3, 0, 0, 0), -3);
        for (int i = 2; i < 120; i++) {
            due("vouch " + i, x.vouch(1, 2, 0, 0, 0), i);
        }
        due("vouch 120", x.vouch(1, 2, 0, 0, 0), -5);
        due("vouch 120 for itself", x.vouch(2, 2, 0, 0, 0), -3);
        due("vouch 120, wrong", x.vouch(2, 20, 0, 0, 0), -1);
        due("count(3)", x.count(3), 120);
    }

    private static void back() {
        HandShakes x = of(22);
        due("back: none such", x.back(0, 0), -2);
        x.vouch(0, 1, 0, 10, 10);
        due("back: day -1", x.back(0, -1), -1);
        due("back: day 400", x.back(0, 400), -1);
        due("back: day 400, none such", x.back(7, 400), -1);
        due("back: none such", x.back(1, 399), -2);
        due("back: none such below", x.back(-1, 399), -2);
        due("back", x.back(0, 20), 0);
        due("back again", x.back(0, 20), -4);
        due("sure ahead of it", x.sure(0, 1, 19, 10), 1);
        due("sure then", x.sure(0, 1, 20, 10), -1);
        due("sure then, known at once", x.sure(0, 1, 20, 399), -1);
        x.vouch(2, 3, 0, 10, 0);
        due("back ahead of its day", x.back(1, 0), 0);
        due("it never stands", x.sure(2, 3, 399, 399), -1);
    }

    private static void sure() {
        HandShakes x = of(23);
        for (int i = 0; i < 7; i++) {
            x.vouch(i, i + 1, Math.max(0, 5 - i), 0, 0);
        }
        due("sure: six steps", x.sure(0, 6, 0, 0), 6);
        due("sure: seven would be too far", x.sure(0, 7, 0, 0), -1);
        due("sure: five", x.sure(0, 5, 0, 0), 5);
        due("sure: five of the second one need 4", x.sure(1, 6, 0, 0), 5);
        due("sure: six of the second one", x.sure(1, 7, 0, 0), -1);
        due("sure: not the other way", x.sure(1, 0, 0, 0), -1);
        x.vouch(0, 6, 0, 5, 7);
        due("sure: not from that day on yet", x.sure(0, 6, 4, 7), 6);
        due("sure: not known yet", x.sure(0, 6, 5, 6), 6);
        due("sure: the shorter one", x.sure(0, 6, 5, 7), 1);
        due("sure of oneself", x.sure(9, 9, 0, 0), 0);
        due("sure(-1)", x.sure(-1, -1, 0, 0), -1);
        due("sure(20)", x.sure(20, 20, 0, 0), -1);
        due("sure(0, 20)", x.sure(0, 20, 0, 0), -1);
        due("sure(32, 0)", x.sure(32, 0, 0, 0), -1);
        due("sure(0, 32)", x.sure(0, 32, 0, 0), -1);
        due("sure(day -1)", x.sure(0, 0, -1, 0), -1);
        due("sure(day 400)", x.sure(0, 1, 400, 0), -1);
        due("sure(known -1)", x.sure(0, 1, 0, -1), -1);
        due("sure(known 400)", x.sure(0, 1, 0, 400), -1);
        // The short row's REACH is too small, a longer one's is not.
        x = of(23);
        x.vouch(0, 1, 0, 0, 0);
        x.vouch(1, 2, 0, 0, 0);
        due("sure: reach 0", x.sure(0, 2, 0, 0), -1);
        x.vouch(0, 3, 2, 0, 0);
        x.vouch(3, 1, 1, 0, 0);
        due("sure: by a longer row", x.sure(0, 2, 0, 0), 3);
    }

    private static void hangs() {
        HandShakes x = of(24);
        due("hangs: none", x.hangs(0, 0, 0), -1);
        x.vouch(0, 1, 5, 0, 0);
        x.vouch(1, 2, 5, 0, 0);
        x.vouch(2, 0, 5, 0, 0);
        due("hangs: a round of three", x.hangs(0, 0, 0), 3);
        x.vouch(0, 1, 0, 3, 0);
        due("hangs: ahead of the second one's day", x.hangs(0, 2, 0), 3);
        due("hangs: 0 and 2 are sure of 1 by another, which does not reach to 2", x.hangs(0, 3, 0), 1);
        due("hangs: nothing on the short one", x.hangs(3, 3, 0), 0);
        due("hangs: not there yet", x.hangs(3, 2, 0), 0);
        due("hangs: 4", x.hangs(4, 0, 0), -1);
        due("hangs: -1", x.hangs(-1, 0, 0), -1);
        due("hangs: day", x.hangs(0, 400, 0), -1);
        due("hangs: day", x.hangs(0, -1, 0), -1);
        due("hangs: known", x.hangs(0, 0, 400), -1);
        due("hangs: known", x.hangs(0, 0, -1), -1);
        x.back(0, 3);
        due("hangs: taken back", x.hangs(0, 3, 0), 0);
        due("hangs: now on the other", x.hangs(3, 3, 0), 2);
    }

    private static void rules() {
        HandShakes x = of(25);
        due("rules(1, 0)", x.rules(1, 0), 0);
        due("rules(2, 0)", x.rules(2, 0), -1);
        due("rules(-1, 0)", x.rules(-1, 0), -1);
        due("rules(0, 2)", x.rules(0, 2), -1);
        due("rules(0, -1)", x.rules(0, -1), -1);
        x.come(0);
        x.come(1);
        due("by rule 1 the newcomer gets it, and who had the one before", x.group(2, 1), 3);
        x.go(0);
        due("by rule 0 who goes does not", x.group(3, 1), 2);
        x.rules(0, 1);
        x.go(1);
        due("by rule 1 who goes does", x.group(4, 1), 2);
        due("nobody is in", x.group(4, 0), 0);
        x.come(2);
        due("by rule 0 only who is in", x.group(5, 1), 4);
    }

    private static void comeAndGo() {
        HandShakes x = of(26);
        due("come(7)", x.come(7), 1);
        due("come(7)", x.come(7), -3);
        due("come(-1)", x.come(-1), -1);
        due("come(8)", x.come(8), -1);
        promise = 27;
        due("go(0)", x.go(0), -3);
        due("go(-1)", x.go(-1), -1);
        due("go(8)", x.go(8), -1);
        due("go(7)", x.go(7), 2);
        for (int i = 3; i <= 30; i++) {
            due("time " + i, i % 2 == 1 ? x.come(0) : x.go(0), i);
        }
        due("go(0)", x.go(0), -3);
        promise = 26;
        due("come(0) behind 30", x.come(0), -5);
        due("come(8) behind 30", x.come(8), -1);
        due("count(4)", x.count(4), 30);
        due("group(30, 0)", x.group(30, 0), 0);
        due("group(31, 0)", x.group(31, 0), -1);
        x = of(27);
        x.come(0);
        for (int i = 2; i <= 30; i++) {
            due("time " + i, i % 2 == 0 ? x.come(1) : x.go(1), i);
        }
        due("group(30, 0)", x.group(30, 0), 3);
        due("group(30, 1)", x.group(30, 1), 3);
        x.image(0);
        x.restore(0);
        due("group(30, 1)", x.group(30, 1), 3);
        due("go(1) behind 30", x.go(1), -5);
        due("come(1) behind 30", x.come(1), -3);
    }

    private static void group() {
        HandShakes x = of(28);
        due("group(0, 1)", x.group(0, 1), 0);
        due("group(0, 2)", x.group(0, 2), -1);
        due("group(0, -1)", x.group(0, -1), -1);
        due("group(-1, 0)", x.group(-1, 0), -1);
        x.rules(1, 1);
        x.come(3);
        due("group(1, 1): there is no secret before", x.group(1, 1), 8);
        x.come(5);
        x.go(3);
        x.come(6);
        due("group(2, 1)", x.group(2, 1), 8 + 32);
        due("group(4, 0)", x.group(4, 0), 32 + 64);
        due("group(4, 1): who went still hears", x.group(4, 1), 8 + 32 + 64);
        due("group(3, 1): who came later does not", x.group(3, 1), 8 + 32);
        x.rules(0, 0);
        x.come(0);
        due("group(5, 1): anew", x.group(5, 1), 1 + 32 + 64);
        due("group(5, 0)", x.group(5, 0), 1 + 32 + 64);
    }

    private static void images() {
        HandShakes x = of(29);
        due("image(-1)", x.image(-1), -1);
        due("image(2)", x.image(2), -1);
        promise = 30;
        due("restore(0)", x.restore(0), -2);
        due("restore(2)", x.restore(2), -1);
        due("restore(-1)", x.restore(-1), -1);
        x.vouch(0, 1, 0, 0, 0);
        x.rules(1, 1);
        x.come(0);
        due("image(0)", x.image(0), 0);
        x.back(0, 0);
        x.vouch(1, 2, 0, 0, 0);
        x.rules(0, 0);
        x.come(1);
        Tape.have(x, "g");
        Tape.protocol(x, "a send g");
        due("image(1)", x.image(1), 0);
        due("restore(0)", x.restore(0), 0);
        due("count(3)", x.count(3), 1);
        due("count(4)", x.count(4), 1);
        due("count(2): only V. goes back", x.count(2), 1);
        due("count(0): only V. goes back", x.count(0), 1);
        due("not taken back", x.sure(0, 1, 0, 0), 1);
        due("the time is not yet", x.group(2, 0), -1);
        x.come(2);
        due("the rules, too", x.group(2, 1), 1 + 4);
        x.go(0);
        due("of goes as well", x.group(3, 1), 1 + 4);
        due("restore(1)", x.restore(1), 0);
        due("count(3)", x.count(3), 2);
        due("taken back", x.sure(0, 1, 0, 0), -1);
        due("group(2, 0)", x.group(2, 0), 3);
        due("restore(0): images stay", x.restore(0), 0);
        due("count(3)", x.count(3), 1);
        x.vouch(5, 6, 0, 0, 0);
        due("restore(0): images stay as they were", x.restore(0), 0);
        due("sure(5, 6)", x.sure(5, 6, 0, 0), -1);
        x.image(1);
        x.restore(1);
        due("image(1) anew", x.count(4), 1);
    }

    private static void count() {
        HandShakes x = with(31, "a send g", "b send g");
        Tape.shelf(x, "g");
        Tape.shelf(x, "x 0");
        Tape.shelf(x, "x 1");
        for (int i = 0; i < 4; i++) {
            Tape.have(x, "g");
        }
        for (int i = 0; i < 5; i++) {
            x.vouch(0, 1, 0, 0, 0);
        }
        for (int i = 0; i < 6; i++) {
            x.come(i);
        }
        Tape.put(x, "1234567");
        for (int what = 0; what < 6; what++) {
            due("count(" + what + ")", x.count(what), what + 2);
        }
        due("count(6)", x.count(6), -1);
        due("count(-1)", x.count(-1), -1);
    }

    private static void status() {
        HandShakes x = of(32);
        Tape.protocol(x, "a");
        due("status() of protocol()", x.status(), -6);
        Tape.make(x, "q");
        x.prove(9, 9, 9);
        x.sure(-1, 0, 0, 0);
        x.end(-1);
        due("status() stays", x.status(), -6);
        Tape.protocol(x, "a send g");
        due("status() is 0", x.status(), 0);
        Tape.shelf(x, "");
        due("status() of shelf()", x.status(), -6);
        Tape.have(x, "g");
        due("status() of have()", x.status(), 0);
        Tape.have(x, "x 0");
        due("status() of have()", x.status(), -6);
        x.vouch(0, 0, 0, 0, 0);
        due("status() of vouch()", x.status(), -3);
        x.vouch(0, 1, 0, 0, 0);
        due("status() of vouch()", x.status(), 0);
        x.back(1, 0);
        due("status() of back()", x.status(), -2);
        x.back(0, 0);
        due("status() of back()", x.status(), 0);
        x.back(0, 0);
        due("status() of back() again", x.status(), -4);
        x.rules(0, 0);
        due("status() of rules()", x.status(), 0);
        x.rules(0, 7);
        due("status() of rules()", x.status(), -1);
        x.come(0);
        due("status() of come()", x.status(), 0);
        x.come(0);
        due("status() of come()", x.status(), -3);
        x.go(0);
        due("status() of go()", x.status(), 0);
        x.go(0);
        due("status() of go()", x.status(), -3);
        x.image(0);
        due("status() of image()", x.status(), 0);
        x.image(5);
        due("status() of image()", x.status(), -1);
        x.restore(0);
        due("status() of restore()", x.status(), 0);
        x.restore(1);
        due("status() of restore()", x.status(), -2);
        for (int i = 0; i < 5; i++) {
            Tape.shelf(x, "g");
        }
        due("status() of shelf()", x.status(), 0);
        Tape.shelf(x, "g");
        due("status() of shelf()", x.status(), -5);
    }
}
