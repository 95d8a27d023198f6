/** Promises 1, 6, 8 to 11, 31, 32 and what holds for all calls: refused ones change nothing, all numbers are taken, 512 calls are. */
public final class BoundsCallsTest {
    private static final Check CHECK = new Check();
    private static final int[] NUMBERS = {Integer.MIN_VALUE, Integer.MIN_VALUE + 1, -65536, -2, -1, 0, 1, 2, 3, 4, 5, 6, 7, 8, 12, 13, 20, 21,
        30, 31, 32, 33, 60, 64, 99, 100, 101, 120, 399, 400, 401, 65536, 1 << 30, Integer.MAX_VALUE - 1, Integer.MAX_VALUE};

    private BoundsCallsTest() {
    }

    public static void main(String[] args) {
        newObject();
        faults();
        haveLimit();
        haveEmpties();
        makeReads();
        sameLatest();
        sameNone();
        clears();
        counts();
        statusOfEach();
        statusOfOthers();
        refusedTexts();
        refusedFullOnes();
        refusedLife();
        refusedLatest();
        objectsApart();
        anyNumbers();
        manyCalls();
        CHECK.close();
    }

    private static void due(String call, long got, long want) {
        CHECK.due(call, got, want);
    }

    private static void newObject() {
        CHECK.says("No PROTOCOLS, nobody VOUCHED, an empty GROUP");
        HandShakes x = new HandShakes();
        for (int what = 0; what <= 5; what++) {
            due("count(" + what + ")", x.count(what), 0);
        }
        due("fault()", x.fault(), -1);
        due("status()", x.status(), 0);
        due("clear()", x.clear(), 0);
        due("end(0)", x.end(0), 0);
        for (int i = 0; i <= 3; i++) {
            due("lines(0, " + i + ")", x.lines(0, i), -1);
            due("found(" + i + ")", x.found(i), -1);
            due("course(0, " + i + ")", x.course(0, i), -1);
            due("last(0, 0, " + i + ")", x.last(0, 0, i), -1);
            due("filled(" + i + ")", x.filled(i), -1);
            due("share(0, 0, 0, " + i + ", 0)", x.share(0, 0, 0, i, 0), -1);
        }
        due("prove(0, 1, 0)", x.prove(0, 1, 0), -1);
        due("weakest(0)", x.weakest(0), -1);
        due("fill(0)", x.fill(0), -1);
        due("hangs(0, 0, 0)", x.hangs(0, 0, 0), -1);
        due("back(0, 0)", x.back(0, 0), -2);
        due("go(0)", x.go(0), -3);
        due("restore(0)", x.restore(0), -2);
        due("sure(0, 1, 0, 0)", x.sure(0, 1, 0, 0), -1);
        due("sure(0, 0, 0, 0)", x.sure(0, 0, 0, 0), 0);
        due("group(0, 0)", x.group(0, 0), 0);
        due("group(0, 1)", x.group(0, 1), 0);
        due("group(1, 0)", x.group(1, 0), -1);
    }

    private static void faults() {
        CHECK.says("FAULT of the latest protocol(), shelf(), have(), make(), same() that read a TEXT: its place; NONE without");
        String[] bad = {"a send", "sum(", "pair(g", "g ,", "key"};
        int[] place = {6, 4, 6, 2, 3};
        for (int i = 0; i < bad.length; i++) {
            for (int k = 0; k < 5; k++) {
                HandShakes x = new HandShakes();
                read(x, i, bad[i]);
                due("fault() of '" + bad[i] + "'", x.fault(), place[i]);
                due("fault() once more", x.fault(), place[i]);
                x.feed(0, 0, 0, 0, 0);
                x.end(0);
                x.clear();
                x.vouch(0, 0, 0, 0, 0);
                due("fault() behind other calls", x.fault(), place[i]);
                read(x, k, k == 0 ? "a send g" : "g");
                due("fault() behind one that is read", x.fault(), -1);
                read(x, k, k == 0 ? "a send q" : "q");
                due("fault() of the latest", x.fault(), k == 0 ? 7 : 0);
            }
        }
    }

    private static int read(HandShakes x, int which, String text) {
        switch (which) {
            case 0: return Tape.protocol(x, text);
            case 1: return Tape.shelf(x, text);
            case 2: return Tape.have(x, text);
            case 3: return Tape.make(x, text);
            default: return Tape.same(x, text);
        }
    }

    private static void haveLimit() {
        CHECK.says("how many are. -5 20 are (ahead of reading it); -6");
        HandShakes x = new HandShakes();
        for (int i = 1; i <= 19; i++) {
            due("have() " + i, Tape.have(x, "lot 0"), i);
        }
        due("have(), unreadable, as the 20th", Tape.have(x, "x 0"), -6);
        due("count(2)", x.count(2), 19);
        due("have() 20", Tape.have(x, "key 0"), 20);
        due("make() the 20th", Tape.make(x, "key 0"), 1);
        Tape.put(x, "key 1");
        due("have() 21", x.have(), -5);
        due("status()", x.status(), -5);
        due("count(2)", x.count(2), 20);
        due("count(5): it was not read", x.count(5), 5);
        due("make(): the TAPE is as it was", x.make(), 0);
        Tape.put(x, "x");
        due("have() 21, unreadable", x.have(), -5);
        due("fault(): it was not read", x.fault(), -1);
        due("same(): it was not read", Tape.same(x, "key 1"), 1);
        due("clear()", x.clear(), 20);
        due("have()", Tape.have(x, "key 1"), 1);
        due("make() what was HAD", Tape.make(x, "key 0"), 0);
    }

    private static void haveEmpties() {
        CHECK.says("The TAPE, which is empty then, becomes a TERM that is HAD");
        HandShakes x = new HandShakes();
        due("have() of an empty TAPE", x.have(), -6);
        due("fault()", x.fault(), 0);
        due("have()", Tape.have(x, "g"), 1);
        due("count(5)", x.count(5), 0);
        due("have() of an empty TAPE", x.have(), -6);
        due("have()", Tape.have(x, "hole 0"), -6);
        due("count(5)", x.count(5), 0);
        due("count(2)", x.count(2), 1);
    }

    private static void makeReads() {
        CHECK.says("1, 0. NONE, if it can't be read. (g and NAMES are not HAD of themselves.)");
        HandShakes x = new HandShakes();
        due("make() of an empty TAPE", x.make(), -1);
        due("make() blanks", Tape.make(x, "    "), -1);
        due("fault()", x.fault(), 4);
        for (String atom : new String[] {"g", "name 0", "name 1", "sum(g)", "pair(name 0,name 1)"}) {
            due("make() " + atom, Tape.make(x, atom), 0);
            due("count(5)", x.count(5), 0);
        }
        Tape.have(x, "g");
        due("make() g", Tape.make(x, "g"), 1);
        due("make() name 0", Tape.make(x, "name 0"), 0);
        due("make() x", Tape.make(x, "x 0"), -1);
        due("count(5)", x.count(5), 0);
        due("count(2): make() has nothing", x.count(2), 1);
    }

    private static void sameLatest() {
        CHECK.says("is the same as the latest that have(), make(), same() read: 1, 0");
        HandShakes x = new HandShakes();
        Tape.have(x, "lot 0");
        due("same() as have()", Tape.same(x, "lot 0"), 1);
        Tape.make(x, "lot 1");
        due("same() as make()", Tape.same(x, "lot 1"), 1);
        due("same() unlike", Tape.same(x, "lot 2"), 0);
        due("same() as same()", Tape.same(x, "lot 2"), 1);
        Tape.shelf(x, "lot 0");
        Tape.protocol(x, "a send lot 0");
        due("same(): others do not count", Tape.same(x, "lot 2"), 1);
        Tape.have(x, "x 0");
        Tape.make(x, "lot 3");
        Tape.same(x, "q");
        due("same(): those that can't be read do not count", Tape.same(x, "lot 2"), 1);
        x.clear();
        due("same(): clear() does not count", Tape.same(x, "lot 2"), 1);
        x.prove(0, 1, 0);
        x.share(0, 0, 0, 0, 0);
        due("same() behind a search", Tape.same(x, "lot 2"), 1);
    }

    private static void sameNone() {
        CHECK.says("NONE, if it can't be read, or there was none (it is the latest then)");
        HandShakes x = new HandShakes();
        due("same() of an empty TAPE", x.same(), -1);
        Tape.have(x, "hole 0");
        Tape.make(x, "name 2");
        due("same(): there was none", Tape.same(x, "key 0"), -1);
        due("fault()", x.fault(), -1);
        due("same(): it is the latest", Tape.same(x, "key 0"), 1);
        due("same(): unlike", Tape.same(x, "key 1"), 0);
        due("count(5)", x.count(5), 0);
        due("same() can't be read", Tape.same(x, "key 2"), -1);
        due("count(5)", x.count(5), 0);
    }

    private static void clears() {
        CHECK.says("Nothing is HAD: how many were");
        HandShakes x = new HandShakes();
        due("clear() of none", x.clear(), 0);
        Tape.have(x, "g");
        due("clear() of one", x.clear(), 1);
        due("count(2)", x.count(2), 0);
        due("clear() again", x.clear(), 0);
        for (int i = 1; i <= 20; i++) {
            Tape.have(x, "g");
        }
        Tape.put(x, "g");
        due("clear() of 20", x.clear(), 20);
        due("count(5): the TAPE stays", x.count(5), 1);
        due("make()", x.make(), 0);
    }

    private static void counts() {
        CHECK.says("0 PROTOCOLS, 1 SHELF, 2 HAD, 3 VOUCHED, 4 TIMES so far, 5 bytes of the TAPE. NONE for others");
        HandShakes x = new HandShakes();
        for (int wrong : new int[] {Integer.MIN_VALUE, -2, -1, 6, 7, Integer.MAX_VALUE}) {
            due("count(" + wrong + ")", x.count(wrong), -1);
        }
        int[] most = {6, 5, 20, 120, 30, 400};
        for (int i = 0; i < 7; i++) {
            Tape.protocol(x, "a send g");
            Tape.shelf(x, "g");
        }
        for (int i = 0; i < 21; i++) {
            Tape.have(x, "g");
        }
        for (int i = 0; i < 121; i++) {
            x.vouch(0, 1, 0, 0, 0);
        }
        for (int i = 0; i < 31; i++) {
            due("come or go", i % 2 == 0 ? x.come(0) : x.go(0), i < 30 ? i + 1 : -5);
        }
        x.end(0);
        for (int i = 0; i < 21; i++) {
            x.feed(0, 0, 0, 0, 0);
        }
        for (int what = 0; what <= 5; what++) {
            due("count(" + what + ") at the most", x.count(what), most[what]);
        }
    }

    private static void statusOfEach() {
        CHECK.says("What the latest call of protocol, shelf, have, vouch, back, rules, come, go, image, restore was REFUSED by; 0 if it was not");
        HandShakes x = new HandShakes();
        int[] answers = {Tape.protocol(x, "q"), x.status(), Tape.protocol(x, "a send g"), x.status(), Tape.shelf(x, "q"), x.status(),
            Tape.shelf(x, "g"), x.status(), Tape.have(x, "q"), x.status(), Tape.have(x, "g"), x.status(), x.vouch(0, 20, 0, 0, 0), x.status(),
            x.vouch(0, 1, 0, 0, 0), x.status(), x.vouch(1, 1, 0, 0, 0), x.status(), x.back(0, 0), x.status(), x.back(0, 0), x.status(),
            x.back(1, 0), x.status(), x.back(0, 400), x.status(), x.rules(0, 0), x.status(), x.rules(2, 0), x.status(), x.come(0), x.status(),
            x.come(0), x.status(), x.come(8), x.status(), x.go(0), x.status(), x.go(0), x.status(), x.go(8), x.status(), x.image(0), x.status(),
            x.image(2), x.status(), x.restore(0), x.status(), x.restore(1), x.status(), x.restore(2), x.status()};
        int[] want = {-6, -6, 0, 0, -6, -6, 0, 0, -6, -6, 1, 0, -1, -1, 0, 0, -3, -3, 0, 0, -4, -4, -2, -2, -1, -1, 0, 0, -1, -1, 1, 0, -3, -3,
            -1, -1, 2, 0, -3, -3, -1, -1, 0, 0, -1, -1, 0, 0, -2, -2, -1, -1};
        for (int i = 0; i < want.length; i++) {
            due("answer or status() " + i, answers[i], want[i]);
        }
        due("so many answers", answers.length, want.length);
    }

    private static void others(HandShakes x) {
        x.feed(0, 0, 0, 0, 0);
        x.end(-1);
        x.end(0);
        x.fault();
        x.lines(9, 9);
        Tape.make(x, "q");
        Tape.same(x, "q");
        x.clear();
        x.prove(9, 9, 9);
        x.weakest(9);
        x.share(9, 9, 9, 9, 9);
        x.found(9);
        x.course(9, 9);
        x.last(9, 9, 9);
        x.fill(9);
        x.filled(9);
        x.luck(99, 99, 99);
        x.sure(-1, 0, 0, 0);
        x.hangs(-1, 0, 0);
        x.group(-1, 0);
        x.count(-1);
        x.status();
    }

    private static void statusOfOthers() {
        CHECK.says("What the latest call of protocol, shelf, have, vouch, back, rules, come, go, image, restore was REFUSED by; .. or ahead of any");
        HandShakes x = new HandShakes();
        others(x);
        due("status() ahead of any", x.status(), 0);
        x.go(0);
        others(x);
        due("status() stays", x.status(), -3);
        x.come(0);
        others(x);
        due("status() stays", x.status(), 0);
        x.image(0);
        x.go(1);
        x.restore(0);
        due("status() is not of an IMAGE", x.status(), 0);
    }

    // ---- refused calls ----

    private static void refusedTexts() {
        CHECK.says("-6");
        HandShakes x = CHECK.with("a send lot 0;b sure g");
        Tape.shelf(x, "lot 1");
        Tape.have(x, "lot 2");
        x.prove(0, 1, 0);
        Tape.protocol(x, "a send lot 0;b sure");
        Tape.shelf(x, "lot 1;");
        Tape.have(x, "pair(lot 2,lot 1");
        Tape.make(x, "lot");
        Tape.same(x, "lot lot");
        due("count(0)", x.count(0), 1);
        due("count(1)", x.count(1), 1);
        due("count(2)", x.count(2), 1);
        due("lines(0, 0)", x.lines(0, 0), 2);
        due("found(0)", x.found(0), 1);
        due("prove(0)", x.prove(0, 1, 0), 1);
        due("make() lot 2", Tape.make(x, "lot 2"), 1);
        due("make() lot 1", Tape.make(x, "lot 1"), 0);
        due("protocol(): the next number", Tape.protocol(x, "a sure hole 0"), 1);
        due("fill(1): the SHELF as it was", x.fill(1), 1);
    }

    private static void refusedFullOnes() {
        CHECK.says("NONE, if there would be more than 400");
        HandShakes x = new HandShakes();
        Tape.put(x, Texts.times(395, " ", "") + "lot 1");
        due("feed", x.feed(0x20202020, 0x20202020, 0x20202020, 0x20202020, 0x20202020), -1);
        due("count(5)", x.count(5), 400);
        due("end(401)", x.end(401), -1);
        due("end(-1)", x.end(-1), -1);
        due("count(5)", x.count(5), 400);
        due("have(): the TAPE as it was", x.have(), 1);
        due("make()", Tape.make(x, "lot 1"), 1);
        CHECK.says("-5 six are there (ahead of reading it)");
        for (int i = 0; i < 6; i++) {
            Tape.protocol(x, "a sure lot " + i % 3);
        }
        due("protocol()", Tape.protocol(x, "a sure g"), -5);
        for (int i = 0; i < 6; i++) {
            due("prove(" + i + ")", x.prove(i, 1, 0), 0);
        }
    }

    private static void refusedLife() {
        CHECK.says("VOUCHED: its number. -1; -3 for itself; -5 .. -1; -3 in already; -5 30 TIMES");
        HandShakes x = new HandShakes();
        x.vouch(0, 1, 0, 5, 5);
        x.come(0);
        x.rules(1, 1);
        x.image(0);
        x.vouch(2, 2, 0, 0, 0);
        x.vouch(2, 3, 6, 0, 0);
        x.back(0, 400);
        x.back(1, 0);
        x.rules(0, 2);
        x.rules(2, 0);
        x.come(0);
        x.come(8);
        x.go(1);
        x.go(-1);
        x.image(2);
        x.restore(1);
        x.restore(2);
        due("count(3)", x.count(3), 1);
        due("count(4)", x.count(4), 1);
        due("sure(0, 1)", x.sure(0, 1, 399, 399), 1);
        due("group(1, 0)", x.group(1, 0), 1);
        due("come(1)", x.come(1), 2);
        due("group(2, 1)", x.group(2, 1), 3);
        due("go(0): by rule 1", x.go(0), 3);
        due("group(3, 1)", x.group(3, 1), 3);
        due("vouch: the next number", x.vouch(1, 2, 0, 0, 0), 1);
    }

    private static void refusedLatest() {
        CHECK.says("kept as the latest");
        HandShakes x = CHECK.with("b take x 0;b sure pair(x 0,x 0)", "a send g", "a send hole 0", "a sure g;a send hole 0");
        Tape.shelf(x, "g");
        due("prove(0)", x.prove(0, 1, 0), 1);
        due("fill(2)", x.fill(2), 1);
        due("prove(6)", x.prove(6, 1, 0), -1);
        due("prove(1) in no room", x.prove(1, 0, 0), -1);
        due("prove(2): a hole", x.prove(2, 1, 0), -1);
        due("fill(1): no hole", x.fill(1), -1);
        due("fill(3): none holds", x.fill(3), -1);
        due("found(0)", x.found(0), 2);
        due("found(1)", x.found(1), 1);
        due("found(2)", x.found(2), 1);
        due("course(0, 0)", x.course(0, 0), 1);
        due("course(0, 1)", x.course(0, 1), 0);
        due("last(0, 1, 3)", x.last(0, 1, 3), 3);
        due("filled(0)", x.filled(0), 0);
        due("prove(1)", x.prove(1, 1, 0), 0);
        due("found(0)", x.found(0), 1);
        due("found(1)", x.found(1), 0);
        due("course(0, 0)", x.course(0, 0), -1);
        due("filled(0): prove() is no fill()", x.filled(0), 0);
    }

    private static void objectsApart() {
        CHECK.says("No PROTOCOLS, nobody VOUCHED, an empty GROUP");
        HandShakes x = CHECK.with("a sure g");
        HandShakes y = CHECK.with("a sure lot 0", "a sure g");
        Tape.have(x, "g");
        x.vouch(0, 1, 0, 0, 0);
        x.come(0);
        due("prove() of one", x.prove(0, 1, 0), 1);
        due("prove() of the other", y.prove(0, 1, 0), 0);
        due("found(2) of one", x.found(2), 0);
        due("found(2) of the other", y.found(2), -1);
        due("make() of the other", Tape.make(y, "g"), 0);
        due("count(3) of the other", y.count(3), 0);
        due("count(4) of the other", y.count(4), 0);
        due("count(0) of one", x.count(0), 1);
    }

    /** Any numbers in any place: no call throws, and those that are out of all ranges are refused. */
    private static void anyNumbers() {
        CHECK.says("-1; NONE");
        HandShakes x = full();
        for (int i = 0; i < NUMBERS.length; i++) {
            for (int k = 0; k < NUMBERS.length; k++) {
                int a = NUMBERS[i];
                int b = NUMBERS[k];
                if (k % 12 == 0) {
                    x = full();
                }
                boolean far = a < -1 || a > 400;
                long[] answers = {x.lines(a, b), x.course(a, b), x.group(a, b), x.rules(a, b), x.prove(a, 1, b), x.last(a, b, 0), x.last(0, a, b),
                    x.share(a, b, 0, 0, 0), x.share(0, a, b, 0, 0), x.share(0, 0, 0, a, b), x.luck(a, b, 0), x.luck(1, b, a),
                    x.vouch(a, b, 0, 0, 0), x.vouch(b, a, 0, 0, 0), x.vouch(0, 1, a, b, 0), x.vouch(0, 1, 0, b, a), x.sure(a, b, 0, 0),
                    x.sure(0, 1, a, b), x.hangs(a, b, 0), x.hangs(0, a, b)};
                for (int n = 0; n < answers.length && far; n++) {
                    due("call " + n + " with " + a + ", " + b, answers[n], -1);
                }
                if (b < 0 || b > 399) {
                    due("back(" + a + ", " + b + ")", x.back(a, b), -1);
                }
            }
            int a = NUMBERS[i];
            long[] answers = {x.end(a), x.weakest(a), x.found(a), x.fill(a), x.filled(a), x.come(a), x.go(a), x.image(a), x.restore(a), x.count(a)};
            for (int n = 0; n < answers.length && (a < 0 || a > 400); n++) {
                due("call " + n + " with " + a, answers[n], -1);
            }
            x.feed(a, a, a, a, a);
        }
    }

    private static HandShakes full() {
        HandShakes x = new HandShakes();
        Tape.protocol(x, "a take x 0;a send pair(x 0,lot 0);a sure g;b take pair(x 0,x 1);b show x 0");
        Tape.protocol(x, "a send hole 0;b sure lot 0");
        Tape.shelf(x, "key 0");
        x.prove(0, 2, 1);
        x.vouch(0, 1, 0, 0, 0);
        x.come(0);
        return x;
    }

    private static void manyCalls() {
        CHECK.says("An object is used for at most 512 calls after it has been made");
        HandShakes x = new HandShakes();
        int calls = 0;
        String text = "a send g;b sure g   ";
        for (int round = 0; round < 6; round++) {
            Tape.put(x, text);
            due("protocol() " + round, x.protocol(), round);
            calls += 4;
        }
        for (int round = 0; calls + 8 <= 512; round++) {
            due("prove()", x.prove(round % 6, 1 + round % 2, round % 4), 1);
            due("found(2)", x.found(2), 1);
            due("last(0, 1, 3)", x.last(0, 1, 3), 1);
            due("weakest()", x.weakest(round % 6), 0);
            due("share()", x.share(round % 6, 50, 50, 2, 0), 1);
            due("sure()", x.sure(3, 4, round, round), round == 0 ? -1 : 1);
            due("vouch()", x.vouch(3, 4, 0, 0, 0), round);
            due("luck()", x.luck(12, 5, 1), 1L << 60);
            calls += 8;
        }
        for (; calls < 511; calls++) {
            due("count(0)", x.count(0), 6);
        }
        due("the 512th call", x.prove(5, 2, 3), 1);
    }
}
