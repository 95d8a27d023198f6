/** Terms III without RUNS, sentence by sentence, at the bound and beside it: ROOMS, shows, TAKES, STATES, FILLED, WEAKEST. */
public final class BoundsCourseTest {
    private static final Check CHECK = new Check();
    private static final int LEAST = Integer.MIN_VALUE;
    private static final int MOST = Integer.MAX_VALUE;

    private BoundsCourseTest() {
    }

    public static void main(String[] args) {
        roomsAndCareless();
        thirdHas();
        thirdOpens();
        thirdForgets();
        showsWait();
        unlikeShows();
        alikeShows();
        unlikeInTwoRooms();
        unlikeOfEachState();
        candidatePlaces();
        candidatesByEnds();
        candidatesOnce();
        candidateLimit();
        candidateLimitInRaise();
        twoFree();
        states();
        cheatedAtTheLimit();
        statesByTakes();
        cheatedStates();
        unlikeSureInTheOtherRoom();
        firstEnd();
        longCourse();
        foundBounds();
        courseBounds();
        lastBounds();
        weakest();
        weakestKeeps();
        fillHoles();
        fillRows();
        fillWords();
        fillFree();
        fillOneRoom();
        alikeAnswers();
        manyTerms();
        manyTermsOfStates();
        manyTermsOfTakes();
        manyTaken();
        careOfOneRoom();
        tookEachKind();
        tookTheLargest();
        tookTheSame();
        raisedHoles();
        CHECK.close();
    }

    private static void due(String call, long got, long want) {
        CHECK.due(call, got, want);
    }

    /** What prove() answers of each in so many ROOMS with so many CARELESS. */
    private static void proves(HandShakes x, int protocol, int rooms, int careless, int want) {
        due("prove(" + protocol + ", " + rooms + ", " + careless + ")", x.prove(protocol, rooms, careless), want);
    }

    private static void roomsAndCareless() {
        CHECK.says("in so many ROOMS (1, 2) with so many CARELESS (0 .. 3)");
        HandShakes x = CHECK.with("a send g", "a sure g", "a send hole 0");
        for (int rooms = 1; rooms <= 2; rooms++) {
            for (int careless = 0; careless <= 3; careless++) {
                proves(x, 0, rooms, careless, 0);
                due("found(0)", x.found(0), 1);
                proves(x, 1, rooms, careless, 1);
            }
        }
        due("found(2)", x.found(2), 0);
        for (int wrong : new int[] {LEAST, -1, 0, 3, 4, MOST}) {
            proves(x, 0, wrong, 0, -1);
        }
        for (int wrong : new int[] {LEAST, -1, 4, 5, MOST}) {
            proves(x, 0, 1, wrong, -1);
        }
        for (int wrong : new int[] {LEAST, -1, 3, 6, MOST}) {
            proves(x, wrong, 1, 0, -1);
        }
        CHECK.says("A PROTOCOL without \"hole\" .. NONE");
        proves(x, 2, 1, 0, -1);
        CHECK.says("kept as the latest");
        due("found(2): the latest is that of the last that was proved", x.found(2), 0);
    }

    private static void thirdHas() {
        CHECK.says("The THIRD has g, NAMES, its LOTS, and hears all that is sent");
        String[] terms = {"g", "name 0", "name 1", "key 0", "key 1", "lot 0", "lot 1", "lot 2", "sum(pair(g,name 1))", "raise(g,lot 0)",
            "raise(g,key 0)"};
        int[] want = {1, 1, 1, 0, 0, 0, 0, 0, 1, 0, 0};
        for (int i = 0; i < terms.length; i++) {
            HandShakes x = CHECK.with("a sure " + terms[i], "a sure " + terms[i] + ";a send " + terms[i], "a sure " + terms[i] + ";b take x 0");
            proves(x, 0, 1, 0, want[i]);
            proves(x, 1, 1, 0, 1);
            proves(x, 2, 1, 0, want[i]);
        }
    }

    private static void thirdOpens() {
        CHECK.says("what is in a SEAL that is GOT, if that by which it is SEALED can be MADE");
        HandShakes x = CHECK.with("a send seal(lot 0,name 0);a sure lot 0", "a send seal(lot 0,key 0);a sure lot 0",
                "a send seal(lot 0,lot 1);b send seal(lot 0,name 0);a send seal(lot 1,sum(name 1));a sure lot 0",
                "a send seal(lot 0,key 0);a sure lot 0;b take g;b send key 0", "a send seal(lot 0,lot 1);a send seal(lot 1,lot 0);a sure lot 0",
                "a take x 0;a send seal(lot 0,x 0);a sure lot 0");
        int[] want = {1, 0, 1, 1, 0, 1};
        int[] takes = {0, 0, 0, 1, 0, 1};
        for (int i = 0; i < want.length; i++) {
            proves(x, i, 1, 0, want[i]);
            due("found(1) of " + i, x.found(1), takes[i]);
            due("found(2) of " + i, x.found(2), want[i] == 1 ? 0 : -1);
        }
    }

    private static void thirdForgets() {
        CHECK.says("The THIRD has g, NAMES, its LOTS, and hears all that is sent");
        // What a would send in another COURSE, with another x, it does not hear in this one.
        String text = "b send pair(g,name 0);a take x 0;a sure seal(pair(x 0,name 0),key 0);a send seal(x 0,key 0)";
        HandShakes x = CHECK.with(text, text + ";a take g", text + ";b take name 1;a take g", text + ";a take g;a take g;a send g");
        for (int i = 0; i < 4; i++) {
            proves(x, i, 1, 0, 0);
            proves(x, i, 2, 0, 1);
        }
    }

    private static void showsWait() {
        CHECK.says("at \"show\" it waits till the other END of its ROOM is at \"show\", too");
        HandShakes x = CHECK.with("a show g;a sure g", "a show g;a sure g;b send g", "a show g;a sure g;b take g;b show g",
                "a show g;b take g;b sure g", "a show g;b show lot 0;b sure g;a take g;b take g", "a show g;a show g;a sure g;b show g");
        proves(x, 0, 1, 3, 0);
        proves(x, 0, 2, 3, 0);
        proves(x, 1, 1, 3, 0);
        proves(x, 2, 1, 0, 1);
        due("found(1)", x.found(1), 1);
        due("last() LINES of a", x.last(0, 0, 0), 2);
        proves(x, 3, 1, 0, 1);
        due("last() a waits, and is not STOPPED", x.last(0, 0, 1), 0);
        due("last() LINES of a", x.last(0, 0, 0), 0);
        CHECK.says("are the TERMS that both show the same, both go on, else both STOP");
        proves(x, 4, 1, 0, 0);
        due("found(0): no TAKE behind it", x.found(0), 1);
        proves(x, 4, 1, 1, 1);
        proves(x, 5, 1, 0, 0);
    }

    private static String unlike(int n) {
        return Texts.times(n, "a show lot 0;b show lot 0", ";") + (n == 0 ? "" : ";");
    }

    private static void unlikeShows() {
        CHECK.says("of such unlike ones the first so many as people are CARELESS (0 .. 3) go on, too");
        for (int shows = 0; shows <= 5; shows++) {
            HandShakes x = CHECK.with(unlike(shows) + "a sure g", "b sure g;" + unlike(shows) + "a send g");
            for (int careless = 0; careless <= 3; careless++) {
                proves(x, 0, 1, careless, shows <= careless ? 1 : 0);
                proves(x, 1, 1, careless, 1);
                due("last() LINES of a, " + shows + " shows", x.last(0, 0, 0), shows <= careless ? shows + 1 : careless);
                due("last() LINES of b, " + shows + " shows", x.last(0, 1, 0), 1 + Math.min(shows, careless));
                due("last() a STOPPED, " + shows + " shows", x.last(0, 0, 1), shows <= careless ? 0 : 1);
                due("last() b STOPPED, " + shows + " shows", x.last(0, 1, 1), shows <= careless ? 0 : 1);
            }
        }
    }

    private static void alikeShows() {
        CHECK.says("of such unlike ones the first so many as people are CARELESS (0 .. 3) go on, too");
        String alike = "a show g;b show g;";
        HandShakes x = CHECK.with(alike + alike + unlike(1) + alike + "a sure g", alike + alike + alike + alike + alike + "a sure g",
                unlike(1) + alike + unlike(1) + alike + unlike(1) + "a sure g");
        proves(x, 0, 1, 0, 0);
        proves(x, 0, 1, 1, 1);
        proves(x, 1, 1, 0, 1);
        proves(x, 2, 1, 2, 0);
        proves(x, 2, 1, 3, 1);
    }

    private static void unlikeInTwoRooms() {
        CHECK.says("ENDS go on as far as they can .. those of ROOM 0 ahead of those of ROOM 1");
        for (int shows = 1; shows <= 4; shows++) {
            HandShakes x = CHECK.with("b sure g;" + unlike(shows) + "a send g");
            for (int careless = 0; careless <= 3; careless++) {
                proves(x, 0, 2, careless, 1);
                int first = Math.min(shows, careless);
                int second = Math.min(shows, careless - first);
                due("last() LINES of room 0", x.last(0, 0, 0), first == shows ? shows + 1 : first);
                due("last() LINES of room 1", x.last(1, 0, 0), second == shows ? shows + 1 : second);
                due("last() room 0 STOPPED", x.last(0, 0, 1), first == shows ? 0 : 1);
                due("last() room 1 STOPPED", x.last(1, 0, 1), second == shows ? 0 : 1);
            }
        }
        // Ahead of any TAKE both ROOMS go on; a TAKE's ROOM goes on behind it.
        HandShakes x = CHECK.with("a take g;a show lot 0;b show lot 0;a sure g");
        proves(x, 0, 2, 0, 0);
        due("found(0): each ROOM with its TAKE or without", x.found(0), 4);
        proves(x, 0, 2, 1, 1);
        due("course(0, 0)", x.course(0, 0), 0);
    }

    private static void unlikeOfEachState() {
        CHECK.says("A STATE: how far ENDS are, what they took, who STOPPED, how many unlike ones went on");
        // With the x that makes the first show alike one CARELESS is left for the second one; with those ahead of it none.
        String text = "a take x 0;a show x 0;b show name 0;a show lot 0;b show lot 0;a sure g";
        HandShakes x = CHECK.with(text, "a take g;" + text);
        for (int i = 0; i <= 1; i++) {
            proves(x, i, 1, 0, 0);
            proves(x, i, 1, 1, 1);
            due("course() of the x", x.course(i, 1), 4);
            due("found(0)", x.found(0), 1 + i + 5);
            proves(x, i, 1, 2, 1);
            due("course() of the x", x.course(i, 1), 0);
            due("found(0)", x.found(0), 1 + i + 1);
        }
    }

    /** All that a tells is sent once more in the open: so each part can be MADE, and b shows which it took. */
    private static void candidatePlaces() {
        CHECK.says("THIRD's LOTS 0, 1, RAISE of g by each of these, NAMES 0, 1; then .. itself, then parts from the left "
                + "(of a RAISE what is under it, then its ATOMS in order ..), parts of parts each time behind their own");
        String whole = "pair(seal(lot 0,key 0),raise(sum(g),lot 1,key 1,lot 1))";
        String[] parts = {whole, "seal(lot 0,key 0)", "lot 0", "key 0", "raise(sum(g),key 1,lot 1,lot 1)", "sum(g)", "g", "key 1", "lot 1"};
        for (int i = 0; i < parts.length; i++) {
            HandShakes x = CHECK.with("a send " + whole + ";a send key 0;a send key 1;a send lot 0;a send lot 1;b take x 0;b show x 0;a show "
                    + parts[i] + ";b sure g");
            proves(x, 0, 1, 0, 1);
            due("course(0, 0)", x.course(0, 0), 1);
            due("course(0, 1) of " + parts[i], x.course(0, 1), 6 + i);
            due("found(0) of " + parts[i], x.found(0), 1 + 7 + i);
        }
        String[] behind = {"raise(g,lot 1)", "g", "lot 1"};
        for (int i = 0; i < behind.length; i++) {
            HandShakes x = CHECK.with("a send raise(g,lot 1);a send lot 1;b take x 0;b show x 0;a show " + behind[i] + ";b sure g");
            proves(x, 0, 1, 0, 1);
            due("course(0, 1) of " + behind[i], x.course(0, 1), 6 + i);
        }
        for (int n = 0; n <= 1; n++) {
            HandShakes x = CHECK.with("b take x 0;b show x 0;a show name " + n + ";b sure g");
            proves(x, 0, 1, 0, 1);
            due("course(0, 1) of name " + n, x.course(0, 1), 4 + n);
        }
        HandShakes x = CHECK.with("a take x 0;b take x 0;a sure pair(key 0,x 0);b sure pair(key 0,x 0)", "a take x 0;a sure x 0",
                "a send raise(g,lot 0);a take x 0;a sure raise(x 0,lot 0)", "b take x 0;b show x 0;a show g;b sure g");
        proves(x, 0, 1, 0, 1);
        due("course(0, 1): the first LOT", x.course(0, 1), 0);
        due("course(1, 1): the second one is unlike", x.course(1, 1), 1);
        proves(x, 1, 1, 0, 1);
        due("course(0, 1)", x.course(0, 1), 0);
        proves(x, 2, 1, 0, 1);
        due("course(0, 1): RAISE of g by the first LOT", x.course(0, 1), 2);
        proves(x, 3, 1, 0, 0);
        due("found(0): g is no CANDIDATE of itself", x.found(0), 7);
    }

    private static void candidatesByEnds() {
        CHECK.says("then of ENDS (ROOM by ROOM, a ahead of b) and of what each sent, in order");
        // What a sends behind its TAKE comes ahead of what b sent long ago.
        HandShakes x = CHECK.with("b send sum(name 0);b take x 0;b show x 0;b sure g;a take g;a send sum(name 1);a show sum(name 0)",
                "b send sum(name 0);b send sum(name 1);b take x 0;b show x 0;b sure g;a show sum(name 1)",
                "a send seal(lot 0,key 0);b take seal(x 0,key 0);b sure x 0;a sure lot 0",
                "b send seal(lot 0,key 0);a take seal(x 0,key 0);a sure x 0;b sure lot 0");
        proves(x, 0, 1, 0, 1);
        due("found(1)", x.found(1), 2);
        due("course(0, 0)", x.course(0, 0), 0);
        due("course(1, 0)", x.course(1, 0), 1);
        due("course(1, 1)", x.course(1, 1), 7);
        proves(x, 1, 1, 0, 1);
        due("course(0, 1)", x.course(0, 1), 7);
        // Places 6 .. 8 are ROOM 0's SEAL, lot, key; 9, 10 ROOM 1's SEAL and lot.
        proves(x, 2, 1, 0, 0);
        proves(x, 2, 2, 0, 1);
        due("course(0, 0)", x.course(0, 0), 1);
        due("course(0, 1)", x.course(0, 1), 10);
        proves(x, 3, 2, 0, 1);
        due("course(0, 0)", x.course(0, 0), 0);
        due("course(0, 1)", x.course(0, 1), 10);
    }

    private static void candidatesOnce() {
        CHECK.says("each TERM once");
        String[] sent = {"a send name 0", "a send name 0;b send name 1", "a send g", "a send g;a send g;b send g", "a send sum(g);b send g",
            "a send pair(name 0,name 1)", "a send pair(sum(g),sum(g))", "a send raise(g,lot 0,lot 0);a send lot 0"};
        int[] more = {0, 0, 1, 1, 2, 1, 3, 3};
        for (int i = 0; i < sent.length; i++) {
            HandShakes x = CHECK.with(sent[i] + ";b take x 0");
            proves(x, 0, 1, 0, 0);
            due("found(0) of " + sent[i], x.found(0), 1 + 6 + more[i]);
        }
        // What an END took and sends on is there already: the place of what it sends then is the next one.
        HandShakes x = CHECK.with("a take x 0;a send x 0;a send sum(name 1);a show sum(name 1);b take x 0;b show x 0;b sure g");
        proves(x, 0, 1, 0, 1);
        due("course(0, 1)", x.course(0, 1), 0);
        due("course(1, 0)", x.course(1, 0), 1);
        due("course(1, 1)", x.course(1, 1), 6);
    }

    /** Six, six SUMS of each NAME, a RAISE (18), g (19), its ATOMS: key 0 (20) .. lot 1 (23), and lot 2, one too late. */
    private static void candidateLimitInRaise() {
        CHECK.says("each TERM once, the first 24");
        String[] atoms = {"key 0", "key 1", "lot 0", "lot 1", "lot 2"};
        for (int i = 0; i < atoms.length; i++) {
            HandShakes x = CHECK.with("a send " + Texts.sums(6, "name 0") + ";a send " + Texts.sums(6, "name 1")
                    + ";a send raise(g,lot 2,key 1,lot 1,lot 0,key 0);a send pair(key 0,pair(key 1,pair(lot 0,pair(lot 1,lot 2))));"
                    + "b take x 0;b show x 0;b sure g;a show " + atoms[i]);
            proves(x, 0, 1, 0, i < 4 ? 1 : 0);
            due("course(0, 1) of " + atoms[i], x.course(0, 1), i < 4 ? 20 + i : -1);
            due("found(0) of " + atoms[i], x.found(0), i < 4 ? 1 + 21 + i : 1 + 24);
        }
    }

    /** Six, six SUMS of each NAME, and n SUMS of g and itself: g comes last. */
    private static void candidateLimit() {
        CHECK.says("each TERM once, the first 24");
        for (int sums = 3; sums <= 6; sums++) {
            int all = 6 + 6 + 6 + sums + 1;
            HandShakes x = CHECK.with("a send " + Texts.sums(6, "name 0") + ";a send " + Texts.sums(6, "name 1") + ";a send "
                    + Texts.sums(sums, "g") + ";b take x 0;b show x 0;a show g;b sure g");
            boolean reached = all <= 24;
            proves(x, 0, 1, 0, reached ? 1 : 0);
            due("found(0) of " + all, x.found(0), 1 + Math.min(all, 24));
            due("course(0, 1) of " + all, x.course(0, 1), reached ? all - 1 : -1);
        }
        // Parts that can't be MADE have their places, too: g is the 24th, or one too late.
        for (int sums = 4; sums <= 6; sums++) {
            int all = 6 + 7 + 6 + sums;
            HandShakes x = CHECK.with("a send " + Texts.sums(6, "lot 0") + ";a send " + Texts.sums(6, "name 1") + ";a send "
                    + Texts.sums(sums - 1, "g") + ";b take x 0;b show x 0;a show g;b sure g");
            boolean reached = all <= 24;
            proves(x, 0, 1, 0, reached ? 1 : 0);
            due("course(0, 1) of " + all, x.course(0, 1), reached ? all - 1 : -1);
        }
    }

    private static void twoFree() {
        CHECK.says("a TAKE of an END: its CANDIDATES by the order of \"x\" 0 .. 3, the lower \"x\" first");
        HandShakes x = CHECK.with("a take pair(x 3,x 1);a show pair(x 3,x 1);b show pair(name 0,name 1);a sure g",
                "a take pair(x 1,x 3);a show pair(x 3,x 1);b show pair(name 0,name 1);a sure g", "a take pair(x 0,x 1)", "a take pair(x 2,x 2)",
                "a take name 0;a take pair(name 1,g)");
        proves(x, 0, 1, 0, 1);
        due("course(0, 1): of x 1", x.course(0, 1), 5);
        due("course(0, 2): of x 3", x.course(0, 2), 4);
        due("found(0)", x.found(0), 1 + 5 * 6 + 5);
        proves(x, 1, 1, 0, 1);
        due("course(0, 1): of x 1", x.course(0, 1), 5);
        due("course(0, 2): of x 3", x.course(0, 2), 4);
        proves(x, 2, 1, 0, 0);
        due("found(0)", x.found(0), 1 + 36);
        proves(x, 3, 1, 0, 0);
        due("found(0)", x.found(0), 1 + 6);
        proves(x, 4, 1, 0, 0);
        due("found(0)", x.found(0), 3);
    }

    /** How an END's LINES make so many STATES: some TAKES, one of them with an x, so many behind that. */
    private static String takes(String column, int ahead, int behind) {
        return Texts.times(ahead, column + " take g;", "") + column + " take x 0;" + Texts.times(behind, column + " take g;", "");
    }

    /** 1, one for each TAKE ahead, six for each from the x on. */
    private static int count(int ahead, int behind) {
        return 1 + ahead + 6 * (1 + behind);
    }

    private static void states() {
        CHECK.says("SPENT: 400 STATES were gone through, none CHEATED, and there are more. PROVED else");
        String last = "a send name 0";
        HandShakes x = CHECK.with(takes("a", 0, 2) + takes("b", 2, 2) + last, takes("a", 1, 2) + takes("b", 1, 2) + last,
                takes("a", 1, 2) + "a show pair(x 0,name 1);a take g;" + takes("b", 1, 2) + "b show pair(name 1,x 0)",
                takes("a", 2, 2) + takes("b", 2, 2) + last);
        due("STATES of both", count(0, 2) * count(2, 2), 399);
        proves(x, 0, 1, 0, 0);
        due("found(0)", x.found(0), 399);
        due("STATES of both", count(1, 2) * count(1, 2), 400);
        proves(x, 1, 1, 0, 0);
        due("found(0)", x.found(0), 400);
        proves(x, 2, 1, 0, 2);
        due("found(0) of 401", x.found(0), 400);
        due("found(1) of 401", x.found(1), 0);
        due("found(2) of 401", x.found(2), -1);
        due("course(0, 0) of 401", x.course(0, 0), -1);
        due("last(0, 0, 0) of 401", x.last(0, 0, 0), -1);
        proves(x, 3, 1, 0, 2);
        due("found(0) of 441", x.found(0), 400);
        // One END alone: 1, TAKES ahead, 36 of two x and behind them, 216 of a third one.
        for (int ahead = 1; ahead <= 5; ahead++) {
            HandShakes y = CHECK.with(Texts.times(ahead, "a take g;", "") + "a take pair(x 0,x 1);a take g;a take g;a take g;a take g;a take x 2");
            int all = 1 + ahead + 36 * 5 + 216;
            proves(y, 0, 1, 0, all <= 400 ? 0 : 2);
            due("found(0) of " + all, y.found(0), Math.min(all, 400));
        }
    }

    private static void cheatedAtTheLimit() {
        CHECK.says("CHEATED: one that is gone through is CHEATED: the first; .. STATES gone through (up to the first CHEATED one, it too)");
        // Only the last STATE of all is CHEATED: both took name 1, the last CANDIDATE.
        HandShakes x = CHECK.with(takes("a", 0, 2) + "a show pair(x 0,name 1);a sure g;" + takes("b", 2, 2) + "b show pair(name 1,x 0)",
                takes("a", 1, 2) + "a show pair(x 0,name 1);a sure g;" + takes("b", 1, 2) + "b show pair(name 1,x 0)",
                takes("a", 1, 2) + "a show pair(x 0,name 1);a take g;a sure g;" + takes("b", 1, 2) + "b show pair(name 1,x 0)");
        proves(x, 0, 1, 0, 1);
        due("found(0)", x.found(0), 399);
        due("found(1)", x.found(1), 8);
        proves(x, 1, 1, 0, 1);
        due("found(0)", x.found(0), 400);
        due("found(1)", x.found(1), 8);
        due("course(1, 1)", x.course(1, 1), 5);
        due("course(5, 1)", x.course(5, 1), 5);
        due("course(7, 0)", x.course(7, 0), 1);
        due("course(8, 0)", x.course(8, 0), -1);
        proves(x, 2, 1, 0, 2);
        due("found(0): the 401st is CHEATED", x.found(0), 400);
        due("found(1): the 401st is CHEATED", x.found(1), 0);
    }

    private static void statesByTakes() {
        CHECK.says("STATES are gone through, each once, by how many TAKES lead there at least, of alike ones by the first such row");
        // b is CHEATED by one TAKE, a by two: b is first, behind a's six and b's first.
        HandShakes x = CHECK.with("a take x 0;a take g;a sure g;b take x 0;b sure g", "a take x 0;a sure g;b take x 0;b sure g",
                "a take g;b take g;a take g;b take g");
        proves(x, 0, 1, 0, 1);
        due("found(0)", x.found(0), 1 + 6 + 1);
        due("found(2)", x.found(2), 1);
        proves(x, 1, 1, 0, 1);
        due("found(0)", x.found(0), 2);
        due("found(2)", x.found(2), 0);
        proves(x, 2, 1, 0, 0);
        due("found(0): each once, whichever way leads there", x.found(0), 9);
        proves(x, 2, 2, 0, 0);
        due("found(0)", x.found(0), 81);
        CHECK.says("the first is the one ahead of any TAKE");
        HandShakes y = CHECK.with("a sure g;b take x 0", "b take x 0");
        proves(y, 0, 2, 3, 1);
        due("found(0)", y.found(0), 1);
        due("found(1)", y.found(1), 0);
        due("course(0, 0)", y.course(0, 0), -1);
        due("last(0, 0, 2)", y.last(0, 0, 2), 1);
    }

    private static void cheatedStates() {
        CHECK.says("CHEATED is a STATE in which an END is SURE of a TERM that the THIRD can MAKE, "
                + "or both ENDS of a ROOM are SURE, of unlike ones");
        HandShakes x = CHECK.with("a sure lot 0", "a sure lot 0;a take g;a send lot 0", "a sure key 0;b sure key 0", "a sure key 0;b sure key 1",
                "a sure lot 0;b sure lot 0", "a sure key 0;b take g;b sure key 1");
        proves(x, 0, 1, 0, 0);
        proves(x, 0, 2, 0, 0);
        proves(x, 1, 1, 0, 1);
        due("found(1): it is told later", x.found(1), 1);
        proves(x, 2, 1, 0, 0);
        proves(x, 2, 2, 0, 0);
        proves(x, 3, 1, 0, 1);
        due("found(2)", x.found(2), -1);
        due("last(0, 0, 3)", x.last(0, 0, 3), 1);
        proves(x, 4, 1, 0, 1);
        proves(x, 5, 1, 0, 1);
        due("found(1): one alone does not cheat", x.found(1), 1);
        // Of another ROOM's they may be unlike.
        HandShakes y = CHECK.with("a sure lot 0", "a send seal(lot 0,key 0);a sure lot 0;b take seal(x 0,key 0);b take g;b sure x 0;b send g");
        proves(y, 0, 2, 0, 0);
        proves(y, 1, 1, 0, 0);
        proves(y, 1, 2, 0, 1);
    }

    private static void unlikeSureInTheOtherRoom() {
        CHECK.says("or both ENDS of a ROOM are SURE, of unlike ones");
        // a takes sum(g) or g from b's SEALS, and hands it on; b takes sum(g) alone. So ROOM 1 is first to be unlike.
        HandShakes x = CHECK.with("b send seal(sum(g),key 1);b send seal(g,key 1);b take seal(sum(g),key 0);b sure seal(sum(g),sum(key 0));"
                + "a take seal(x 0,key 1);a send seal(x 0,key 0);a sure seal(x 0,sum(key 0))");
        proves(x, 0, 1, 0, 0);
        due("found(0)", x.found(0), 1 + 2 + 1);
        proves(x, 0, 2, 0, 1);
        due("found(1)", x.found(1), 3);
        due("found(2)", x.found(2), -1);
        due("course(0, 0)", x.course(0, 0), 0);
        due("course(1, 0)", x.course(1, 0), 2);
        due("course(2, 0)", x.course(2, 0), 3);
        due("last(0, 0, 3)", x.last(0, 0, 3), 5);
        due("last(0, 1, 3)", x.last(0, 1, 3), -1);
        due("last(1, 0, 3)", x.last(1, 0, 3), 4);
        due("last(1, 1, 3)", x.last(1, 1, 3), 5);
    }

    /** A COURSE of more TAKES than a PROTOCOL has LINES: each ROOM's a must be through. */
    private static void longCourse() {
        CHECK.says("The i-th TAKE of the latest's COURSE");
        for (int ahead = 5; ahead <= 8; ahead++) {
            HandShakes x = CHECK.with("b send pair(g,name 0);" + Texts.times(ahead, "a take g;", "")
                    + "a take x 0;a sure seal(pair(x 0,name 0),key 0);a send seal(x 0,key 0)");
            proves(x, 0, 1, 0, 0);
            due("found(0)", x.found(0), 1 + ahead + 8);
            proves(x, 0, 2, 0, 1);
            due("found(1)", x.found(1), 2 * ahead + 2);
            for (int i = 0; i < 2 * ahead + 2; i++) {
                due("course(" + i + ", 0)", x.course(i, 0), i <= ahead ? 0 : 2);
                due("course(" + i + ", 1)", x.course(i, 1), i == ahead ? 6 : i == 2 * ahead + 1 ? 8 : -1);
                due("course(" + i + ", 2)", x.course(i, 2), -1);
            }
            due("course() behind the last", x.course(2 * ahead + 2, 0), -1);
            due("last(0, 0, 0)", x.last(0, 0, 0), ahead + 3);
            due("last(1, 0, 0)", x.last(1, 0, 0), ahead + 3);
        }
    }

    private static void firstEnd() {
        CHECK.says("2 the END that is SURE of what the THIRD can MAKE (2 times the ROOM, and 0 a, 1 b; the first; NONE ..)");
        HandShakes x = CHECK.with("a sure g", "b sure g", "a sure lot 0;b sure g", "a sure g;b sure lot 0",
                "b send pair(g,name 0);a take x 0;a sure seal(pair(x 0,name 0),key 0);a send seal(x 0,key 0)",
                "a send pair(g,name 0);b take x 0;b sure seal(pair(x 0,name 0),key 0);b send seal(x 0,key 0)");
        int[] want = {0, 1, 1, 0};
        for (int i = 0; i < want.length; i++) {
            proves(x, i, 1, 0, 1);
            due("found(2) of " + i, x.found(2), want[i]);
            proves(x, i, 2, 0, 1);
            due("found(2) of " + i + " in two rooms", x.found(2), want[i]);
        }
        // What one ROOM's END sent is what the other ROOM's is SURE of.
        for (int column = 0; column <= 1; column++) {
            proves(x, 4 + column, 1, 0, 0);
            proves(x, 4 + column, 2, 0, 1);
            due("found(2)", x.found(2), 2 + column);
            due("found(1)", x.found(1), 2);
            due("course(0, 0)", x.course(0, 0), column);
            due("course(0, 1)", x.course(0, 1), 6);
            due("course(1, 0)", x.course(1, 0), 2 + column);
            // What END a has sent by then stands ahead of what b sent: its SEAL, the PAIR, g.
            due("course(1, 1)", x.course(1, 1), column == 0 ? 8 : 7);
            due("last() SIZE", x.last(1, column, 3), 5);
        }
    }

    private static void foundBounds() {
        CHECK.says("NONE for another what, without a latest");
        HandShakes x = CHECK.with("a sure g", "a send g");
        int[] others = {LEAST, -1, 3, 4, MOST};
        for (int what = -1; what <= 3; what++) {
            due("found(" + what + ") without a latest", x.found(what), -1);
        }
        x.prove(7, 1, 0);
        x.weakest(0);
        x.fill(0);
        due("found(0) without a latest", x.found(0), -1);
        for (int protocol = 0; protocol <= 1; protocol++) {
            x.prove(protocol, 1, 0);
            due("found(0)", x.found(0), 1);
            due("found(1)", x.found(1), 0);
            for (int what : others) {
                due("found(" + what + ")", x.found(what), -1);
            }
        }
    }

    private static void courseBounds() {
        CHECK.says("The i-th TAKE of the latest's COURSE .. NONE");
        HandShakes x = CHECK.with("b take g;b take x 0;b take pair(x 1,x 2);b sure x 1");
        due("course(0, 0) without a latest", x.course(0, 0), -1);
        proves(x, 0, 1, 0, 1);
        int[][] want = {{1, -1, -1}, {1, 0, -1}, {1, 0, 0}};
        for (int i = 0; i < 3; i++) {
            for (int what = 0; what < 3; what++) {
                due("course(" + i + ", " + what + ")", x.course(i, what), want[i][what]);
            }
            for (int what : new int[] {LEAST, -1, 3, MOST}) {
                due("course(" + i + ", " + what + ")", x.course(i, what), -1);
            }
        }
        for (int i : new int[] {LEAST, -1, 3, 4, 23, 24, 25, MOST}) {
            due("course(" + i + ", 0)", x.course(i, 0), -1);
        }
        // As many TAKES as LINES allow, in two ROOMS: eleven of b's in one of them.
        HandShakes y = CHECK.with(Texts.times(11, "b take g;", "") + "b sure g");
        proves(y, 0, 2, 0, 1);
        due("found(1)", y.found(1), 11);
        due("found(0): all rows of fewer TAKES, and the first of eleven whose END is b of room 0", y.found(0), 66 + 1);
        due("course(10, 0)", y.course(10, 0), 1);
        due("course(11, 0)", y.course(11, 0), -1);
    }

    private static void lastBounds() {
        CHECK.says("In the last STATE of the latest's COURSE: of an END .. NONE");
        HandShakes x = CHECK.with("a send g;a sure pair(g,g);a take x 0", "a send g");
        due("last(0, 0, 0) without a latest", x.last(0, 0, 0), -1);
        for (int rooms = 1; rooms <= 2; rooms++) {
            proves(x, 0, rooms, 0, 1);
            for (int room = 0; room <= 2; room++) {
                boolean there = room < rooms;
                int[] a = {2, 0, 1, 3};
                int[] b = {0, 0, 0, -1};
                for (int what = 0; what < 4; what++) {
                    due("last(" + room + ", 0, " + what + ")", x.last(room, 0, what), there ? a[what] : -1);
                    due("last(" + room + ", 1, " + what + ")", x.last(room, 1, what), there ? b[what] : -1);
                }
            }
            for (int wrong : new int[] {LEAST, -1, 4, MOST}) {
                due("last(0, 0, " + wrong + ")", x.last(0, 0, wrong), -1);
            }
            for (int wrong : new int[] {LEAST, -1, 2, 3, MOST}) {
                due("last(0, " + wrong + ", 0)", x.last(0, wrong, 0), -1);
                due("last(" + wrong + ", 0, 0)", x.last(wrong, 0, 0), -1);
            }
        }
        proves(x, 1, 2, 0, 0);
        due("last(0, 0, 0): without a COURSE", x.last(0, 0, 0), -1);
        proves(x, 5, 1, 0, -1);
        due("last(0, 0, 0): still without", x.last(0, 0, 0), -1);
    }

    private static void weakest() {
        CHECK.says("how many CARELESS at least leave it not PROVED in one ROOM; 4 if it is PROVED with 3, too; NONE");
        for (int shows = 0; shows <= 5; shows++) {
            HandShakes x = CHECK.with(unlike(shows) + "a sure g");
            due("weakest() of " + shows + " shows", x.weakest(0), Math.min(shows, 4));
        }
        HandShakes x = CHECK.with("a send g", "a send hole 0", "a take pair(x 0,x 1);b take pair(x 0,x 1)",
                "a show lot 0;b show lot 0;a take pair(x 0,x 1);b take pair(x 0,x 1)",
                "a send seal(lot 0,key 0);b take seal(x 0,key 0);b sure x 0;a sure lot 0");
        due("weakest(0)", x.weakest(0), 4);
        due("weakest(1): a hole", x.weakest(1), -1);
        due("weakest(2): SPENT is not PROVED", x.weakest(2), 0);
        due("weakest(3): SPENT with one careless", x.weakest(3), 1);
        due("weakest(4): it is CHEATED in two ROOMS alone", x.weakest(4), 4);
        for (int wrong : new int[] {LEAST, -1, 5, 6, MOST}) {
            due("weakest(" + wrong + ")", x.weakest(wrong), -1);
        }
    }

    private static void weakestKeeps() {
        CHECK.says("(The latest of prove() stays.)");
        HandShakes x = CHECK.with("a take g;a sure sum(g)", "a send g", "a send hole 0");
        Tape.shelf(x, "g");
        proves(x, 0, 1, 0, 1);
        x.weakest(1);
        x.weakest(0);
        x.share(1, 0, 0, 0, 0);
        x.fill(2);
        Tape.make(x, "g");
        due("found(0)", x.found(0), 2);
        due("found(1)", x.found(1), 1);
        due("found(2)", x.found(2), 0);
        due("course(0, 0)", x.course(0, 0), 0);
        due("last(0, 0, 3)", x.last(0, 0, 3), 2);
    }

    private static void fillHoles() {
        CHECK.says("for each \"hole\" (0, 1, 2) that a PROTOCOL has one of the SHELF");
        String[] texts = {"a sure hole 0", "a sure hole 1", "a sure hole 2", "a sure hole 0;b send hole 2", "b send hole 1;a sure pair(hole 2,hole 0)",
            "a sure lot 0"};
        int[][] want = {{1, 1, -1, -1}, {1, -1, 1, -1}, {1, -1, -1, 1}, {2, 1, -1, 0}, {3, 0, 0, 1}};
        HandShakes x = CHECK.with(texts);
        for (int i = 0; i < 6; i++) {
            due("fill(" + i + ") with nothing on the shelf", x.fill(i), -1);
        }
        due("filled(0)", x.filled(0), -1);
        Tape.shelf(x, "g");
        due("fill(0) with one that does not hold", x.fill(0), -1);
        Tape.shelf(x, "lot 1");
        for (int i = 0; i < want.length; i++) {
            due("fill(" + i + ")", x.fill(i), want[i][0]);
            for (int hole = 0; hole < 3; hole++) {
                due("filled(" + hole + ") of " + i, x.filled(hole), want[i][hole + 1]);
            }
            for (int wrong : new int[] {LEAST, -1, 3, MOST}) {
                due("filled(" + wrong + ")", x.filled(wrong), -1);
            }
        }
        CHECK.says("NONE (no \"hole\", too; the latest stays)");
        due("fill(5): no hole", x.fill(5), -1);
        for (int wrong : new int[] {LEAST, -1, 6, MOST}) {
            due("fill(" + wrong + ")", x.fill(wrong), -1);
        }
        due("filled(0)", x.filled(0), 0);
        due("filled(1)", x.filled(1), 0);
        due("filled(2)", x.filled(2), 1);
    }

    private static void fillRows() {
        CHECK.says("of alike ones the first as rows");
        // Only the last of all rows holds; then only the first; then the first of two that hold.
        String three = "a sure pair(hole 0,pair(hole 1,hole 2))";
        HandShakes x = CHECK.with("a show hole 0;b show lot 0;a show hole 1;b show lot 0;a show hole 2;b show lot 0;a sure g;b send hole 2");
        HandShakes y = CHECK.with(three, "a sure hole 2;b sure hole 0", "a sure pair(hole 0,hole 2)");
        for (int i = 0; i < 5; i++) {
            due("shelf() " + i, Tape.shelf(x, "lot " + i % 3), i);
            due("shelf() " + i, Tape.shelf(y, i == 4 ? "key 0" : i % 2 == 0 ? "g" : "name 0"), i);
        }
        due("fill(): any row holds", x.fill(0), 3);
        for (int hole = 0; hole < 3; hole++) {
            due("filled(" + hole + ")", x.filled(hole), 0);
        }
        due("fill(): one key is enough", y.fill(0), 3);
        due("filled(0)", y.filled(0), 0);
        due("filled(1)", y.filled(1), 0);
        due("filled(2)", y.filled(2), 4);
        due("fill(): both must be the key", y.fill(1), 2);
        due("filled(0)", y.filled(0), 4);
        due("filled(1)", y.filled(1), -1);
        due("filled(2)", y.filled(2), 4);
        due("fill(): hole 0 is foremost", y.fill(2), 2);
        due("filled(0)", y.filled(0), 0);
        due("filled(2)", y.filled(2), 4);
    }

    private static void fillWords() {
        CHECK.says("the one with the least WORDS together (words that begin a TERM or a BY, of each hole's once)");
        String[] shelf = {Texts.sized(20, "lot 1"), Texts.raised("lot 1", 18, "key 0"), "raise(g,lot 1)", "sum(lot 1)", "lot 1"};
        int[] words = {20, 20, 3, 2, 1};
        HandShakes x = CHECK.with("a sure hole 0", "a sure hole 0;a show hole 0;b show hole 0", "a sure pair(hole 0,pair(hole 1,hole 2))");
        for (int i = 0; i < 5; i++) {
            due("shelf() " + i, Tape.shelf(x, shelf[i]), i);
            due("fill(0) with " + (i + 1), x.fill(0), words[i]);
            due("filled(0) with " + (i + 1), x.filled(0), i == 1 ? 0 : i);
            due("fill(1): a hole three times", x.fill(1), words[i]);
            due("fill(2): three holes, each counted", x.fill(2), 3L * words[i]);
        }
        // A row of more words is taken if none of fewer holds: 60 are the most.
        HandShakes y = CHECK.with("a sure hole 0;b show hole 1;a show " + shelf[0].replace("lot 1", "key 0") + ";b show hole 2;a show g;b send lot 0");
        due("shelf()", Tape.shelf(y, shelf[0]), 0);
        due("fill() of 60 words", y.fill(0), 60);
    }

    private static void fillFree() {
        CHECK.says("of all rows of those with which no \"x\" is FREE outside of \"take\"");
        HandShakes x = CHECK.with("a sure hole 0;a take seal(x 0,key 0)", "a take seal(x 0,key 0);a sure hole 0",
                "b take seal(x 0,key 0);a sure hole 0", "a take seal(x 1,key 0);a sure hole 0", "a take seal(x 0,key 0);a sure hole 0;b send hole 0",
                "a take seal(x 0,key 0);a take seal(x 3,key 0);a sure hole 0");
        Tape.shelf(x, "seal(key 0,x 0)");
        int[] want = {-1, 3, -1, -1, -1, 3};
        for (int i = 0; i < want.length; i++) {
            due("fill(" + i + ")", x.fill(i), want[i]);
        }
        Tape.shelf(x, "seal(key 0,pair(x 0,x 3))");
        due("fill(5)", x.fill(5), 3);
        Tape.shelf(x, "key 1");
        for (int i = 0; i < want.length; i++) {
            due("fill(" + i + ") with a key", x.fill(i), 1);
            due("filled(0) of " + i + " with a key", x.filled(0), 2);
        }
    }

    private static void fillOneRoom() {
        CHECK.says("which are PROVED in one ROOM with none CARELESS");
        HandShakes x = CHECK.with("a send seal(hole 0,key 0);b take seal(x 0,key 0);b sure x 0;a sure lot 0",
                "a show lot 0;b show lot 0;a sure g;a send hole 0", "a take pair(x 0,x 1);b take pair(x 0,x 1);a send hole 0",
                "a take pair(x 0,x 1);b take x 0;a send hole 0", "a sure lot 0;a send hole 0");
        Tape.shelf(x, "lot 0");
        due("fill(0): two ROOMS would cheat", x.fill(0), 1);
        due("fill(1): one careless would cheat", x.fill(1), 1);
        due("fill(2): SPENT", x.fill(2), -1);
        due("fill(3): few enough STATES", x.fill(3), 1);
        due("fill(4): CHEATED", x.fill(4), -1);
        due("filled(0): the latest stays", x.filled(0), 0);
    }

    private static void manyTerms() {
        CHECK.says("An END goes on by itself: it sends; it is SURE of the TERM of \"sure\"");
        String three = "a send " + Texts.heavy("g") + ";a send " + Texts.heavy("name 0") + ";a send " + Texts.heavy("name 1");
        for (int rooms = 1; rooms <= 2; rooms++) {
            HandShakes x = CHECK.with(three + ";a sure g");
            proves(x, 0, rooms, 0, 1);
            due("last() LINES", x.last(rooms - 1, 0, 0), 4);
            due("last() STOPPED", x.last(rooms - 1, 0, 1), 0);
        }
        // None of the rows holds, however many TERMS are in the holes.
        HandShakes y = CHECK.with("a send hole 0;a send hole 1;a send hole 2;a sure g");
        Tape.shelf(y, Texts.heavy("g"));
        Tape.shelf(y, Texts.heavy("name 0"));
        Tape.shelf(y, Texts.heavy("name 1"));
        due("fill()", y.fill(0), -1);
    }

    /** Each STATE that is gone through has sent other TERMS: the last but one of the longest rows alone is CHEATED. */
    private static void manyTermsOfStates() {
        CHECK.says("STATES are gone through, each once, by how many TAKES lead there at least");
        HandShakes x = CHECK.with("a take x 0;a send " + Texts.sums(5, "pair(x 0,lot 0)") + ";a take x 1;a send "
                + Texts.sums(4, "pair(x 1,pair(x 0,lot 1))") + ";a take g;a send " + Texts.sums(4, "pair(x 1,pair(x 0,lot 2))")
                + ";a show pair(x 0,x 1);b show pair(name 1,name 1);a sure g");
        proves(x, 0, 1, 0, 1);
        // Behind each x 0 seven CANDIDATES can be MADE, and g, too, behind the two that are RAISES of it.
        due("found(0)", x.found(0), 1 + 6 + 44 + 43);
        due("course(0, 1)", x.course(0, 1), 5);
        due("course(1, 1)", x.course(1, 1), 5);
        due("last() LINES", x.last(0, 0, 0), 8);
    }

    /** The TERMS of all STATES together, or of all TAKES, are some thousands: the last row of TAKES alone is CHEATED. */
    private static void manyTermsOfTakes() {
        CHECK.says("STATES are gone through, each once, by how many TAKES lead there at least");
        HandShakes x = CHECK.with("b send pair(pair(lot0,lot1),pair(lot2,sum(g)));a take pair(x0,x1);a send "
                + "raise(seal(x0,x1),lot1,lot1,lot1,lot1,lot1,lot1,lot0,lot0,lot0,lot0,lot0,lot0);a take g;a show pair(x0,x1);"
                + "b show pair(g,g);a sure sum(sum(pair(x0,x1)))");
        proves(x, 0, 1, 0, 1);
        // Six CANDIDATES and b's eight: all can be MADE. What a sends is of SIZE 30 at most.
        due("found(0)", x.found(0), 1 + 14 * 14 + 14 * 14);
        due("found(1)", x.found(1), 2);
        due("course(0, 1)", x.course(0, 1), 13);
        due("course(0, 2)", x.course(0, 2), 13);
        due("last() LINES", x.last(0, 0, 0), 5);
        due("last() SIZE", x.last(0, 0, 3), 5);
        CHECK.says("an END at \"take\" takes any TERM that its LINE's can be and the THIRD can MAKE");
        // Each CANDIDATE with each other one makes TERMS of its own; those with what was SEALED alone can be MADE.
        HandShakes y = CHECK.with("b send pair(pair(pair(lot0,lot1),pair(lot2,key1)),pair(pair(sum(lot0),sum(lot1)),"
                + "pair(sum(g),sum(name0))));b send seal(pair(sum(g),sum(name0)),key0);"
                + "a take sum(sum(sum(seal(pair(x0,x1),key0))));a sure g");
        proves(y, 0, 1, 0, 1);
        due("found(0)", y.found(0), 2);
        due("course(0, 1)", y.course(0, 1), 19);
        due("course(0, 2)", y.course(0, 2), 21);
    }

    /** Each STATE took two TERMS that no other one did: five hundred of them in all. */
    private static void manyTaken() {
        CHECK.says("STATES are gone through, each once");
        String[] around = {"sum(", "seal(g,", "pair(g,"};
        String[] texts = new String[around.length];
        for (int i = 0; i < around.length; i++) {
            String first = around[i] + "x0)";
            String second = around[i] + "x1)";
            texts[i] = "b send pair(g,lot2);a take pair(x0,x1);a send seal(pair(sum(pair(x0,x1)),seal(x0,x1)),key0);"
                    + "b take seal(pair(x0,x1),key0);b send seal(pair(" + first + "," + second + "),key1);a take seal(pair(x2,x3),key1);"
                    + "a send seal(pair(sum(x2),sum(x3)),sum(key0));b take seal(pair(x2,x3),sum(key0));"
                    + "a show pair(pair(sum(x2),sum(x3)),pair(x0,x1));b show pair(pair(x2,x3),pair(lot2,lot2));b sure pair(x2,x3)";
        }
        HandShakes x = CHECK.with(texts);
        for (int k = 0; k < 6; k++) {
            proves(x, k % 3, 1, 0, 1);
            // Nine CANDIDATES of each x of a; what follows is told by them.
            due("found(0)", x.found(0), 1 + 4 * 81);
            due("found(1)", x.found(1), 4);
            due("course(0, 1)", x.course(0, 1), 8);
            due("course(0, 2)", x.course(0, 2), 8);
            due("last() SURE of b", x.last(0, 1, 2), 1);
            due("last() SIZE of b", x.last(0, 1, 3), k % 3 == 0 ? 12 : 14);
        }
    }

    private static void careOfOneRoom() {
        CHECK.says("of such unlike ones the first so many as people are CARELESS (0 .. 3) go on");
        HandShakes x = CHECK.with("a show g;b show name 0;a take g;a show g;b show name 0;a sure g");
        for (int careless = 0; careless <= 3; careless++) {
            proves(x, 0, 1, careless, careless >= 2 ? 1 : 0);
        }
        // In two ROOMS the other one's show comes between.
        for (int careless = 0; careless <= 3; careless++) {
            proves(x, 0, 2, careless, careless >= 3 ? 1 : 0);
        }
    }

    /** What was taken is the same one a TAKE later, whatever kind of TERM it is: shown, it is like that one alone. */
    private static void tookEachKind() {
        CHECK.says("A STATE: how far ENDS are, what they took");
        String[] kinds = {"pair(lot 0,lot 1)", "seal(lot 0,lot 1)", "sum(lot 0)", "raise(lot 0,lot 1)", "raise(lot 1,lot 0)"};
        String all = "pair(" + kinds[0] + ",pair(" + kinds[1] + ",pair(" + kinds[2] + ",pair(" + kinds[3] + "," + kinds[4] + "))))";
        String keys = "pair(raise(lot 1,key 1,lot 0),pair(pair(key 0,lot 0),pair(lot 0,key 0)))";
        String[] shown = {all, kinds[0], "lot 0", "lot 1", kinds[1], kinds[2], kinds[3], kinds[4], keys, "raise(lot 1,key 1,lot 0)",
            "pair(key 0,lot 0)", "key 0", "pair(lot 0,key 0)"};
        // Those that are left out are the PAIRS of what follows, and key 1, which the THIRD can't MAKE.
        int[] places = {6, 7, 8, 9, 11, 13, 15, 16, 17, 18, 21, 22, 23};
        for (int i = 0; i < shown.length; i++) {
            HandShakes x = CHECK.with("a send " + all + ";a send " + keys + ";a show " + shown[i] + ";b take x 0;b take g;b show x 0;b sure g");
            proves(x, 0, 1, 0, 1);
            due("course(0, 1) of " + shown[i], x.course(0, 1), places[i]);
            due("found(1) of " + shown[i], x.found(1), 2);
            due("found(0) of " + shown[i], x.found(0), 1 + 23 + places[i] + (places[i] < 19 ? 1 : 0));
        }
    }

    /** b takes what is of SIZE 30, 31, and nothing else is like what a shows. */
    private static void tookTheLargest() {
        CHECK.says("takes any TERM that its LINE's can be and the THIRD can MAKE, of a SIZE of at most 30");
        String[] parts = {"pair(seal(lot 0,key 1),pair(sum(g),sum(lot 2)))", "pair(seal(lot 0,key 1),pair(sum(g),pair(g,lot 2)))",
            "raise(g,lot 0,lot 1,lot 2,lot 0,lot 1,key 0,key 1)", "sum(raise(g,lot 0,lot 1,lot 2,lot 0,lot 1,key 0,key 1))"};
        for (int i = 0; i < 4; i++) {
            // a has the part, of a SIZE of nine or ten, from itself alone: it is SEALED.
            String large = "sum(pair(x 1,pair(x 1,x 1)))";
            HandShakes x = CHECK.with("a send seal(" + parts[i] + ",key 0);a take seal(x 1,key 0);a send " + large + ";a show " + large
                    + ";b take x 0;b take g;b show x 0;b sure lot 0;b send lot 0");
            proves(x, 0, 1, 0, 1 - i % 2);
            due("found(1)", x.found(1), 3 - 3 * (i % 2));
            due("last() LINES of b", x.last(0, 1, 0), i % 2 == 0 ? 5 : -1);
        }
        // The same of a RAISE, by sixteen ATOMS and some more.
        for (int more = 11; more <= 13; more++) {
            String raised = Texts.raised("x1", more, "lot2");
            HandShakes x = CHECK.with("a send seal(" + Texts.raised("g", 16, "lot1") + ",key0);a take seal(x1,key0);a send " + raised
                    + ";a show " + raised + ";b take x0;b take g;b show x0;b sure lot0;b send lot0");
            proves(x, 0, 1, 0, more <= 12 ? 1 : 0);
            due("last() LINES of b", x.last(0, 1, 0), more <= 12 ? 5 : -1);
        }
    }

    /** Two rows of TAKES lead to one STATE, though what was taken stood in other places and was made in another order. */
    private static void tookTheSame() {
        CHECK.says("STATES are gone through, each once");
        String ends = "a send raise(g,lot 0,key 0);a take raise(x 0,lot 0,key 0);a send raise(x 0,lot 1);"
                + "b send raise(g,lot 0,key 1);b take raise(x 0,lot 0,key 1);b send raise(x 0,lot 2)";
        HandShakes x = CHECK.with(ends);
        // An END took nothing yet, g (which is under what was sent), or g RAISED by a LOT of the THIRD.
        proves(x, 0, 1, 0, 0);
        due("found(0)", x.found(0), 4 * 4);
        proves(x, 0, 2, 0, 0);
        due("found(0) in two ROOMS", x.found(0), 4 * 4 * 4 * 4);
    }

    /** A LINE's BYS and those of what fills its hole are of one RAISE, also if they are more than any RAISE can have. */
    private static void raisedHoles() {
        CHECK.says("It STOPS at a LINE of which the TERM would have a SIZE above 30");
        for (int n = 13; n <= 18; n++) {
            for (int k = 13; k <= 18; k++) {
                HandShakes x = CHECK.with("a send " + Texts.raised("hole 0", k, "lot 0") + ";a sure g");
                Tape.shelf(x, Texts.raised("g", n, "lot 0"));
                // a STOPS, and is not SURE of g, or is CHEATED.
                due("fill() of " + n + " and " + k, x.fill(0), 2 + n + k > 30 ? 2 + n : -1);
            }
        }
        CHECK.says("their order is of no matter; RAISE of a RAISE by more is one RAISE by all of them");
        HandShakes x = CHECK.with("a show raise(hole 0,lot 0,key 1);b show raise(g,key 1,lot 0,key 0,key 1);a sure g");
        Tape.shelf(x, "raise(g,key 1,key 0)");
        due("fill(): lot 0 is of its END", x.fill(0), 4);
        HandShakes y = CHECK.with("a show raise(hole 0,key 0,key 1);b show raise(g,key 1,key 1,key 0,key 0);a sure g");
        Tape.shelf(y, "raise(g,key 1,key 0)");
        due("fill(): alike, and so CHEATED", y.fill(0), -1);
        Tape.shelf(y, "raise(g,key 1,key 1)");
        due("fill(): unlike", y.fill(0), 4);
        due("filled(0)", y.filled(0), 1);
    }

    /** All that can be asked of a search, in a row. */
    private static String told(HandShakes x, int protocol, int rooms, int careless) {
        StringBuilder all = new StringBuilder();
        all.append(x.prove(protocol, rooms, careless));
        for (int what = 0; what < 3; what++) {
            all.append(' ').append(x.found(what));
        }
        for (int i = 0; i < x.found(1); i++) {
            all.append(' ').append(x.course(i, 0)).append(' ').append(x.course(i, 1)).append(' ').append(x.course(i, 2));
        }
        for (int what = 0; what < 4; what++) {
            all.append(' ').append(x.last(0, 0, what)).append(' ').append(x.last(0, 1, what)).append(' ').append(x.last(1, 0, what));
        }
        return all.append(' ').append(x.share(protocol, 30, 20, 2, 0)).append(' ').append(x.weakest(protocol)).toString();
    }

    private static void alikeAnswers() {
        CHECK.says("kept as the latest: 0 PROVED, 1 CHEATED, 2 SPENT");
        String[] texts = {"a send raise(g,lot 0);a take x 0;a show sum(pair(raise(g,lot 0),x 0));a sure raise(x 0,lot 0);b take x 0;"
                + "b send raise(g,lot 0);b show sum(pair(x 0,raise(g,lot 0)));b sure raise(x 0,lot 0)",
            "a take pair(x 0,x 1);a send raise(x 0,lot 2,lot 1,lot 0,key 1,key 0);b take x 0;b send sum(x 0);a take sum(x 1);a sure lot 1;b sure lot 1",
            "a send seal(pair(lot 0,lot 1),key 0);b take seal(pair(x 2,x 1),key 0);b send x 1;b sure x 2;a take lot 1;a sure lot 0",
            "a take x 0;a show x 0;b show name 0;a show lot 0;b show lot 0;a sure g", "a sure g;b take x 0",
            "a send raise(g,lot 1,key 1);b take raise(x 0,key 1);b send seal(x 0,key 0);a take seal(raise(x 0,lot 1),key 0);a sure sum(x 0)"};
        String[] fresh = new String[24];
        for (int i = 0; i < 24; i++) {
            HandShakes x = CHECK.with(texts);
            fresh[i] = told(x, i % 6, 1 + i / 12, i / 6 % 2);
        }
        // One object goes through all of them, forwards, backwards, and to and fro.
        for (int order = 0; order < 3; order++) {
            HandShakes x = CHECK.with(texts);
            for (int k = 0; k < 10; k++) {
                int i = order == 0 ? k : order == 1 ? 23 - k : k * 7 % 24;
                due("the same as in a new object: " + fresh[i], told(x, i % 6, 1 + i / 12, i / 6 % 2).equals(fresh[i]) ? 1 : 0, 1);
            }
        }
    }
}
