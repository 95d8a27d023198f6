/** Terms I, sentence by sentence, at the bound and beside it: SIZE, what is the same, what can be MADE. */
public final class BoundsTermsTest {
    private static final Check CHECK = new Check();
    /** What is in a's SEAL has a SIZE of 15 and is all that b can take for x. */
    private static final String HANDED = "a send seal(" + Texts.sized(15, "lot 0") + ",key 0);b take seal(x 0,key 0);";

    private BoundsTermsTest() {
    }

    public static void main(String[] args) {
        sizeOfEach();
        sizeOfSend();
        sizeOfShow();
        sizeOfSure();
        sizeOfTake();
        sizeOfRaise();
        raiseIsTheSame();
        atoms();
        pairsAreGot();
        sealsAreOpened();
        sealsOneByOne();
        manyAreHad();
        partsAreMade();
        partsAreMadeTwice();
        raisesAreMade();
        raisesBecomeMore();
        nothingElse();
        CHECK.close();
    }

    private static void due(String call, long got, long want) {
        CHECK.due(call, got, want);
    }

    private static void sizeOfEach() {
        CHECK.says("SIZE: each ATOM, each PAIR, SEAL, SUM, RAISE is one (a RAISE's ATOMS, too)");
        String[] terms = {"g", "name 1", "lot 0", "sum(g)", "pair(g,g)", "seal(g,lot 0)", "raise(g,lot 0)", "raise(g,lot 0,lot 0)",
            "raise(raise(g,lot 0),lot 0)", "raise(pair(g,g),lot 0)", "sum(sum(sum(sum(sum(sum(g))))))", Texts.sized(20, "g"),
            Texts.raised("g", 18, "lot 0")};
        int[] sizes = {1, 1, 1, 2, 3, 3, 3, 4, 4, 5, 7, 20, 20};
        for (int i = 0; i < terms.length; i++) {
            HandShakes x = CHECK.with("a send lot 0;a sure " + terms[i]);
            due("prove() sure " + terms[i], x.prove(0, 1, 0), 1);
            due("last() SIZE of " + terms[i], x.last(0, 0, 3), sizes[i]);
        }
    }

    /** 28, 29, 30: a PAIR of x with one of 12 to 14 words; 31: the first that is too large. */
    private static void sizeOfSend() {
        CHECK.says("It STOPS at a LINE of which the TERM would have a SIZE above 30");
        for (int size = 28; size <= 32; size++) {
            String line = "b send pair(x 0," + Texts.sized(size - 16, "key 1") + ")";
            HandShakes x = CHECK.with(HANDED + line + ";b sure g", HANDED + "b sure g;" + line);
            due("prove() a send of " + size, x.prove(0, 1, 0), size <= 30 ? 1 : 0);
            due("found(0)", x.found(0), 2);
            due("prove() sure, a send of " + size, x.prove(1, 1, 0), 1);
            due("last() LINES, a send of " + size, x.last(0, 1, 0), size <= 30 ? 3 : 2);
            due("last() STOPPED, a send of " + size, x.last(0, 1, 1), size <= 30 ? 0 : 1);
        }
    }

    private static void sizeOfShow() {
        CHECK.says("It STOPS at a LINE of which the TERM would have a SIZE above 30");
        for (int size = 28; size <= 32; size++) {
            String line = "b show pair(x 0," + Texts.sized(size - 16, "key 1") + ")";
            HandShakes x = CHECK.with(HANDED + line + ";a show g;b sure g", HANDED + "b sure g;" + line + ";a show g");
            due("prove() a show of " + size, x.prove(0, 1, 1), size <= 30 ? 1 : 0);
            due("prove() a show of " + size + ", none careless", x.prove(0, 1, 0), 0);
            due("prove() sure, a show of " + size, x.prove(1, 1, 0), 1);
            due("last() b STOPPED, a show of " + size, x.last(0, 1, 1), 1);
            due("last() a STOPPED, b's show of " + size, x.last(0, 0, 1), size <= 30 ? 1 : 0);
        }
    }

    private static void sizeOfSure() {
        CHECK.says("It STOPS at a LINE of which the TERM would have a SIZE above 30");
        for (int size = 28; size <= 32; size++) {
            String line = "b sure pair(x 0," + Texts.sized(size - 16, "key 1") + ")";
            HandShakes x = CHECK.with(HANDED + line + ";b send key 1;b send x 0");
            due("prove() a sure of " + size, x.prove(0, 1, 0), size <= 30 ? 1 : 0);
            due("last() SIZE of a sure of " + size, x.last(0, 1, 3), size <= 30 ? size : -1);
        }
    }

    private static void sizeOfTake() {
        CHECK.says("takes any TERM that its LINE's can be and the THIRD can MAKE, of a SIZE of at most 30");
        String fifteen = Texts.sized(15, "g");
        for (int size = 28; size <= 32; size++) {
            HandShakes x = CHECK.with("a send " + fifteen + ";b take pair(x 0," + Texts.sized(size - 16, "name 0") + ");b show x 0;a show "
                    + fifteen + ";b sure g");
            due("prove() a take of " + size, x.prove(0, 1, 0), size <= 30 ? 1 : 0);
            due("found(1) a take of " + size, x.found(1), size <= 30 ? 1 : 0);
            due("course() a take of " + size, x.course(0, 1), size <= 30 ? 6 : -1);
        }
        CHECK.says("It STOPS at a LINE of which the TERM would have a SIZE above 30 (a \"take\" apart)");
        for (int size = 29; size <= 31; size++) {
            // Both go on from the show only if x is of 15; then b is at the take, and a alone can go on if that is too large.
            HandShakes x = CHECK.with("a send " + fifteen + ";b take x 0;a show " + fifteen + ";b show x 0;b take pair(x 0,"
                    + Texts.sized(size - 16, "g") + ");b send key 0;a take key 0;a sure g", "a send " + fifteen
                    + ";b take x 0;a show " + fifteen + ";b show x 0;b take pair(x 0," + Texts.sized(size - 16, "g") + ");a take g;a sure g");
            due("prove() behind b's take of " + size, x.prove(0, 1, 0), size <= 30 ? 1 : 0);
            due("found(1)", x.found(1), size <= 30 ? 3 : 0);
            due("prove() beside b's take of " + size, x.prove(1, 1, 0), 1);
            due("last() LINES of b", x.last(0, 1, 0), 2);
            due("last() b STOPPED", x.last(0, 1, 1), 0);
        }
    }

    private static void sizeOfRaise() {
        CHECK.says("RAISE of a RAISE by more is one RAISE by all of them");
        String handed = "a send seal(" + Texts.raised("lot 0", 13, "lot 0") + ",key 0);b take seal(x 0,key 0);b sure g;b send ";
        for (int size = 28; size <= 32; size++) {
            HandShakes x = CHECK.with(handed + Texts.raised("x 0", size - 15, "lot 1"));
            due("prove() a RAISE of " + size, x.prove(0, 1, 0), 1);
            due("last() STOPPED, a RAISE of " + size, x.last(0, 1, 1), size <= 30 ? 0 : 1);
        }
    }

    private static void same(String one, String other, int want) {
        HandShakes x = new HandShakes();
        due("same() first " + one, Tape.same(x, one), -1);
        due("same() " + one + " and " + other, Tape.same(x, other), want);
    }

    private static void raiseIsTheSame() {
        CHECK.says("one may be there more than once; their order is of no matter; RAISE of a RAISE by more is one RAISE by all of them");
        same("raise(g,lot 0)", "raise(g,lot 0)", 1);
        same("raise(g,lot 0)", "raise(g,lot 0,lot 0)", 0);
        same("raise(g,lot 0,lot 0)", "raise(g,lot 0,lot 0)", 1);
        same("raise(g,lot 0,lot 0)", "raise(g,lot 0,lot 0,lot 0)", 0);
        same("raise(g,lot 0,lot 0,lot 1)", "raise(g,lot 0,lot 1,lot 1)", 0);
        same("raise(g,lot 0,key 0,lot 2,key 1,lot 1)", "raise(g,key 1,lot 2,lot 1,lot 0,key 0)", 1);
        same("raise(raise(g,lot 1),lot 0)", "raise(g,lot 0,lot 1)", 1);
        same("raise(raise(raise(g,lot 2),lot 1),lot 0)", "raise(g,lot 0,lot 1,lot 2)", 1);
        same("raise(raise(g,lot 0),lot 0)", "raise(g,lot 0)", 0);
        same("raise(sum(raise(g,lot 0)),lot 1)", "raise(sum(raise(g,lot 1)),lot 0)", 0);
        same("raise(g,lot 0)", "raise(name 0,lot 0)", 0);
        same("raise(g,key 0)", "raise(g,key 1)", 0);
        same("raise(g,key 0)", "raise(g,lot 0)", 0);
        same("raise(lot 0,lot 1)", "raise(lot 1,lot 0)", 0);
        same("pair(lot 0,lot 1)", "pair(lot 1,lot 0)", 0);
        same("pair(g,g)", "seal(g,g)", 0);
        same("sum(g)", "g", 0);
        same("sum(g)", "sum(sum(g))", 0);
        same("pair(pair(g,g),g)", "pair(g,pair(g,g))", 0);
    }

    private static void atoms() {
        CHECK.says("ATOMS: g, NAMES 0, 1, KEYS 0, 1, LOTS 0 .. 2 of each END");
        String[] all = {"g", "name 0", "name 1", "key 0", "key 1", "lot 0", "lot 1", "lot 2"};
        for (int had = 0; had < all.length; had++) {
            HandShakes x = new HandShakes();
            due("have() " + all[had], Tape.have(x, all[had]), 1);
            for (int i = 0; i < all.length; i++) {
                due("make() " + all[i] + " from " + all[had], Tape.make(x, all[i]), i == had ? 1 : 0);
                due("same() " + all[had] + " and " + all[i], Tape.same(x, all[had]), i == had ? 1 : 0);
            }
        }
        CHECK.says("\"lot\" its own one; NAMES, KEYS are the same for all, g too");
        HandShakes x = CHECK.with("b send lot 2;a sure lot 2", "b send key 1;a sure key 1", "b send lot 2;b sure lot 2",
                "a sure name 1", "a sure g", "a sure key 1");
        int[] want = {0, 1, 1, 1, 1, 0};
        for (int i = 0; i < want.length; i++) {
            due("prove(" + i + ")", x.prove(i, 1, 0), want[i]);
            due("prove(" + i + ") in two rooms", x.prove(i, 2, 0), want[i]);
        }
    }

    private static void made(String wanted, int want, String... had) {
        HandShakes x = new HandShakes();
        for (int i = 0; i < had.length; i++) {
            due("have() " + had[i], Tape.have(x, had[i]), i + 1);
        }
        due("make() " + wanted + " from " + String.join(" | ", had), Tape.make(x, wanted), want);
    }

    private static void pairsAreGot() {
        CHECK.says("GOT is what is HAD; both parts of a PAIR that is GOT");
        made("g", 0);
        made("g", 1, "g");
        made("g", 1, "pair(g,lot 0)");
        made("lot 0", 1, "pair(g,lot 0)");
        made("lot 1", 0, "pair(g,lot 0)");
        made("lot 2", 1, "pair(pair(pair(pair(pair(pair(lot 2,g),g),g),g),g),g)");
        made("lot 2", 1, "pair(g,pair(g,pair(g,pair(g,pair(g,pair(g,lot 2))))))");
        made("lot 2", 0, "sum(pair(lot 2,g))");
    }

    private static void sealsAreOpened() {
        CHECK.says("what is in a SEAL that is GOT, if that by which it is SEALED can be MADE");
        made("lot 0", 0, "seal(lot 0,key 0)");
        made("lot 0", 1, "seal(lot 0,key 0)", "key 0");
        made("lot 0", 1, "key 0", "seal(lot 0,key 0)");
        made("lot 0", 0, "seal(lot 0,key 0)", "key 1");
        made("lot 0", 1, "pair(seal(lot 0,key 0),key 0)");
        made("lot 0", 1, "seal(lot 0,sum(pair(key 0,key 1)))", "key 1", "key 0");
        made("lot 0", 0, "seal(lot 0,sum(pair(key 0,key 1)))", "key 0");
        made("lot 0", 1, "seal(lot 0,raise(g,lot 1,lot 2))", "raise(g,lot 2)", "lot 1");
        made("lot 0", 0, "seal(lot 0,raise(g,lot 1,lot 2))", "raise(g,lot 2)", "g");
        made("lot 0", 1, "seal(lot 0,seal(key 0,key 1))", "key 0", "key 1");
        made("lot 0", 1, "seal(lot 0,seal(key 0,key 1))", "seal(key 0,key 1)");
        made("lot 0", 0, "seal(lot 0,lot 0)");
        made("lot 0", 0, "seal(lot 0,lot 1)", "seal(lot 1,lot 0)");
        made("lot 0", 1, "seal(lot 0,lot 1)", "seal(lot 1,lot 0)", "seal(lot 1,lot 2)", "lot 2");
        made("key 0", 0, "seal(lot 0,key 0)", "lot 0");
        made("lot 0", 0, "sum(seal(lot 0,key 0))", "key 0");
    }

    /** Twenty are HAD, nineteen SEALS: each opens the one HAD just before it. */
    private static void sealsOneByOne() {
        CHECK.says("what is in a SEAL that is GOT, if that by which it is SEALED can be MADE");
        String[] atoms = {"lot 0", "lot 1", "lot 2", "key 0", "key 1"};
        String[] secret = new String[25];
        for (int i = 0; i < 25; i++) {
            secret[i] = "sum(pair(" + atoms[i / 5] + "," + atoms[i % 5] + "))";
        }
        HandShakes x = new HandShakes();
        for (int i = 18; i >= 0; i--) {
            due("have() " + i, Tape.have(x, "seal(" + secret[i + 1] + "," + secret[i] + ")"), 19 - i);
        }
        due("make() the last secret without the first one", Tape.make(x, secret[19]), 0);
        due("have() the first secret", Tape.have(x, secret[0]), 20);
        due("make() the last secret", Tape.make(x, secret[19]), 1);
        due("make() one behind the last", Tape.make(x, secret[20]), 0);
        due("have() one more", Tape.have(x, secret[20]), -5);
        due("make() one behind the last, still", Tape.make(x, secret[20]), 0);
    }

    /** n ATOMS of a RAISE, the last in order first: so as many as can be are moved. */
    private static String bys(int two, int one, int none) {
        return Texts.times(two, ",lot 2", "") + Texts.times(one, ",lot 1", "") + Texts.times(none, ",key 0", "");
    }

    /** Twenty of twenty words each: no two of them have a RAISE in common. */
    private static void manyAreHad() {
        CHECK.says("what a RAISE that is GOT becomes by more ATOMS that can be MADE");
        HandShakes x = new HandShakes();
        for (int i = 1; i <= 20; i++) {
            int two = i % 5 + 1;
            int one = i / 5 + 1;
            due("have() " + i, Tape.have(x, "raise(" + (i % 2 == 0 ? "g" : "name 0") + bys(two, one, 18 - two - one) + ")"), i);
        }
        for (int i = 1; i <= 20; i++) {
            int two = i % 5 + 1;
            int one = i / 5 + 1;
            String base = "raise(" + (i % 2 == 0 ? "g" : "name 0");
            due("make() " + i, Tape.make(x, base + bys(0, 0, 18 - two - one) + bys(two, one, 0) + ")"), 1);
            due("make() " + i + " with one fewer", Tape.make(x, base + bys(two, one, 17 - two - one) + ")"), 0);
            due("make() " + i + " with another one", Tape.make(x, base + bys(two + 6, one, 12 - two - one) + ")"), 0);
        }
    }

    private static void partsAreMade() {
        CHECK.says("What is GOT can be MADE; a PAIR, a SEAL, a SUM, of which all parts can be MADE");
        made("pair(g,lot 0)", 1, "g", "lot 0");
        made("pair(g,lot 0)", 0, "g");
        made("pair(g,lot 0)", 0, "lot 0");
        made("seal(g,lot 0)", 1, "g", "lot 0");
        made("seal(g,lot 0)", 0, "g");
        made("seal(g,lot 0)", 0, "lot 0");
        made("seal(g,lot 0)", 1, "seal(g,lot 0)");
        made("sum(g)", 1, "g");
        made("sum(g)", 0, "lot 0");
        made("sum(g)", 1, "sum(g)");
        made(Texts.sums(6, "g"), 1, "g");
        made(Texts.sums(6, "g"), 1, Texts.sums(5, "g"));
        made(Texts.sums(5, "g"), 0, Texts.sums(6, "g"));
        made(Texts.sized(20, "key 1"), 1, "key 1");
        made(Texts.sized(20, "key 1"), 0, "key 0");
    }

    /** What was found of a part must hold for the same part further on, however many are HAD. */
    private static void partsAreMadeTwice() {
        CHECK.says("a PAIR, a SEAL, a SUM, of which all parts can be MADE");
        HandShakes x = new HandShakes();
        for (int had = 0; had <= 20; had++) {
            if (had > 0) {
                due("have()", Tape.have(x, had == 1 ? "lot 0" : Texts.raised("name 0", had % 10 + 1, "key " + had / 11)), had);
            }
            String[] alike = {"pair(sum(lot 0),sum(lot 0))", "seal(pair(lot 0,lot 0),pair(lot 0,lot 0))",
                "pair(sum(lot 0),seal(sum(lot 0),lot 0))", "raise(lot 0,lot 0,lot 0)"};
            for (String wanted : alike) {
                due("make() " + wanted + " from " + had, Tape.make(x, wanted), had > 0 ? 1 : 0);
                due("make() a PAIR with lot 1 from " + had, Tape.make(x, "pair(" + wanted + ",pair(sum(lot 0),sum(lot 1)))"), 0);
                due("make() a PAIR of " + wanted + " from " + had, Tape.make(x, "pair(" + wanted + ",sum(" + wanted + "))"),
                        had > 0 ? 1 : 0);
            }
        }
    }

    private static void raisesAreMade() {
        CHECK.says("a RAISE of a TERM that can be MADE by ATOMS that can be MADE");
        made("raise(g,lot 0)", 1, "g", "lot 0");
        made("raise(g,lot 0)", 0, "g");
        made("raise(g,lot 0)", 0, "lot 0");
        made("raise(g,lot 0,lot 1)", 0, "g", "lot 0");
        made("raise(g,lot 0,lot 1)", 1, "g", "lot 0", "lot 1");
        made("raise(g,lot 0,lot 0,lot 0)", 1, "g", "lot 0");
        made("raise(g,key 0)", 1, "g", "key 0");
        made("raise(sum(pair(g,lot 0)),lot 0)", 1, "g", "lot 0");
        made("raise(sum(g),lot 0)", 1, "sum(g)", "lot 0");
        made("raise(sum(g),lot 0)", 0, "sum(g)", "g");
        made(Texts.raised("g", 18, "lot 0"), 1, "g", "lot 0");
        made(Texts.raised("g", 18, "lot 0"), 0, "g", "lot 1");
    }

    private static void raisesBecomeMore() {
        CHECK.says("what a RAISE that is GOT becomes by more ATOMS that can be MADE");
        made("raise(g,lot 0)", 1, "raise(g,lot 0)");
        made("raise(g,lot 0,lot 1)", 1, "raise(g,lot 0)", "lot 1");
        made("raise(g,lot 0,lot 1)", 1, "raise(g,lot 1)", "lot 0");
        made("raise(g,lot 0,lot 1)", 0, "raise(g,lot 0)", "lot 0");
        made("raise(g,lot 0,lot 0)", 0, "raise(g,lot 0)");
        made("raise(g,lot 0,lot 0)", 1, "raise(g,lot 0)", "lot 0");
        made("raise(g,lot 0,lot 1,lot 2)", 0, "raise(g,lot 0)", "lot 1");
        made("raise(g,lot 0,lot 1,lot 2)", 1, "raise(g,lot 0)", "lot 1", "lot 2");
        made("raise(g,lot 0,lot 1,lot 2)", 1, "raise(g,lot 1)", "lot 0", "lot 2");
        made("raise(g,lot 0,lot 1)", 0, "raise(name 0,lot 0)", "lot 1");
        made("raise(g,lot 0)", 0, "raise(g,lot 0,lot 1)", "lot 1");
        made("raise(g,lot 0)", 0, "raise(g,lot 0,lot 0)", "lot 1");
        made("raise(g,lot 0,lot 1)", 0, "raise(g,lot 0)", "raise(g,lot 1)");
        made("raise(g,lot 0,lot 1)", 0, "sum(raise(g,lot 0))", "lot 1");
        made("raise(g,lot 0,lot 1)", 1, "seal(raise(g,lot 0),lot 1)", "lot 1");
        made(Texts.raised("g", 18, "lot 0"), 1, Texts.raised("g", 17, "lot 0"), "lot 0");
        made(Texts.raised("g", 17, "lot 0"), 0, Texts.raised("g", 18, "lot 0"), "lot 0");
    }

    private static void nothingElse() {
        CHECK.says("Nothing else can");
        made("g", 0, "raise(g,lot 0)", "lot 0");
        made("lot 0", 0, "raise(g,lot 0)", "g");
        made("lot 0", 0, "sum(lot 0)");
        made("lot 0", 0, "raise(lot 0,lot 1)", "lot 1");
        made("name 0", 0, "name 1", "g", "key 0", "key 1", "lot 0", "lot 1", "lot 2");
        made("pair(lot 1,lot 0)", 0, "sum(pair(lot 1,lot 0))", "lot 1");
        made("seal(lot 1,key 0)", 0, "seal(lot 1,key 1)", "key 0");
    }
}
