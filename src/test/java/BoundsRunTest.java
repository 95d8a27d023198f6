/** RUNS of Terms III and LUCK of IV, sentence by sentence, at the bound and beside it. */
public final class BoundsRunTest {
    private static final Check CHECK = new Check();
    private static final int LEAST = Integer.MIN_VALUE;
    private static final int MOST = Integer.MAX_VALUE;
    private static final long WHOLE = 10_000_000_000_000_000L;

    private BoundsRunTest() {
    }

    public static void main(String[] args) {
        hundredths();
        kindsAndWhats();
        kinds();
        lowestTerms();
        eventsSent();
        eventsShown();
        eventsNotThere();
        eventsOfNoShare();
        eventsAnew();
        lost();
        misread();
        waits();
        inOrder();
        stopsBySize();
        manyTerms();
        fitsFromTheLeft();
        bits();
        tries();
        product();
        luckTerms();
        CHECK.close();
    }

    private static void due(String call, long got, long want) {
        CHECK.due(call, got, want);
    }

    private static long common(long a, long b) {
        return b == 0 ? a : common(b, a % b);
    }

    /** SHARE of a kind must be upper by lower, given in any terms. */
    private static void shares(HandShakes x, int protocol, int lost, int misread, int kind, long upper, long lower) {
        long by = common(upper, lower);
        String call = "share(" + protocol + ", " + lost + ", " + misread + ", " + kind + ", ";
        due(call + "0)", x.share(protocol, lost, misread, kind, 0), upper / by);
        due(call + "1)", x.share(protocol, lost, misread, kind, 1), lower / by);
    }

    private static void none(HandShakes x, int protocol, int lost, int misread) {
        for (int kind = 0; kind < 4; kind++) {
            for (int what = 0; what < 2; what++) {
                due("share(" + protocol + ", " + lost + ", " + misread + ", " + kind + ", " + what + ")",
                        x.share(protocol, lost, misread, kind, what), -1);
            }
        }
    }

    private static void hundredths() {
        CHECK.says("by hundredths (0 .. 100 each)");
        String[] texts = {"a send g;b take g;b show g;a show g;a sure g", "a send hole 0"};
        for (int lost : new int[] {0, 1, 2, 50, 98, 99, 100}) {
            HandShakes x = CHECK.with(texts);
            for (int misread : new int[] {0, 1, 2, 50, 98, 99, 100}) {
                long good = (100L - lost) * (100 - misread);
                shares(x, 0, lost, misread, 2, good, 10000);
                shares(x, 0, lost, misread, 3, 10000 - good, 10000);
                shares(x, 0, lost, misread, 0, 0, 1);
                shares(x, 0, lost, misread, 1, 0, 1);
            }
        }
        HandShakes x = CHECK.with(texts);
        for (int wrong : new int[] {LEAST, -1, 101, 102, MOST}) {
            none(x, 0, wrong, 0);
            none(x, 0, 0, wrong);
            none(x, 0, wrong, wrong);
        }
        CHECK.says("of a PROTOCOL without \"hole\" .. NONE");
        for (int wrong : new int[] {LEAST, -1, 1, 2, 6, MOST}) {
            none(x, wrong, 0, 0);
        }
    }

    private static void kindsAndWhats() {
        CHECK.says("of a kind (0 .. 3): upper (what 0), lower number (1). NONE");
        HandShakes x = CHECK.with("a send g");
        for (int wrong : new int[] {LEAST, -1, 4, 5, MOST}) {
            due("share(kind " + wrong + ")", x.share(0, 0, 0, wrong, 0), -1);
            due("share(kind " + wrong + ") by", x.share(0, 0, 0, wrong, 1), -1);
        }
        for (int wrong : new int[] {LEAST, -1, 2, 3, MOST}) {
            for (int kind = 0; kind < 4; kind++) {
                due("share(kind " + kind + ", what " + wrong + ")", x.share(0, 0, 0, kind, wrong), -1);
            }
        }
    }

    private static void kinds() {
        CHECK.says("0 both are SURE of the same, 1 both, of unlike ones, 2 one alone, 3 none");
        HandShakes x = CHECK.with("a sure g;b sure g", "a sure lot 0;b sure lot 0", "a sure g", "b sure g", "a send g",
                "a send lot 0;a sure lot 0;b take x 0;b sure x 0");
        int[] only = {0, 1, 2, 2, 3};
        for (int i = 0; i < only.length; i++) {
            for (int kind = 0; kind < 4; kind++) {
                shares(x, i, 30, 30, kind, kind == only[i] ? 1 : 0, 1);
            }
        }
        shares(x, 5, 30, 0, 0, 70, 100);
        shares(x, 5, 30, 0, 1, 0, 1);
        shares(x, 5, 30, 0, 2, 30, 100);
        shares(x, 5, 30, 0, 3, 0, 1);
    }

    private static void lowestTerms() {
        CHECK.says("as upper and lower number in lowest terms (0 is 0 by 1)");
        HandShakes x = CHECK.with("a send g;b take g;b sure g");
        for (int lost = 0; lost <= 100; lost++) {
            shares(x, 0, lost, 0, 2, 100 - lost, 100);
            shares(x, 0, lost, 0, 3, lost, 100);
        }
        due("share() of nothing", x.share(0, 100, 0, 2, 0), 0);
        due("share() of nothing, by", x.share(0, 100, 0, 2, 1), 1);
        due("share() of all", x.share(0, 100, 0, 3, 0), 1);
        due("share() of all, by", x.share(0, 100, 0, 3, 1), 1);
    }

    private static void eventsSent() {
        CHECK.says("NONE (also if a RUN has more than 8 EVENTS)");
        for (int sent = 1; sent <= 10; sent++) {
            HandShakes x = CHECK.with("b take g;b sure g;" + Texts.times(sent, "a send g", ";"));
            if (sent > 8) {
                none(x, 0, 1, 0);
                none(x, 0, 0, 0);
                continue;
            }
            // One at least must come: all are LOST with 1 in so many.
            long lower = power(100, sent);
            shares(x, 0, 1, 0, 2, lower - 1, lower);
            shares(x, 0, 1, 0, 3, 1, lower);
            shares(x, 0, 99, 0, 3, power(99, sent), lower);
        }
        due("the lower number of 8 EVENTS", power(100, 8), WHOLE);
    }

    private static long power(long base, int times) {
        long all = 1;
        for (int i = 0; i < times; i++) {
            all *= base;
        }
        return all;
    }

    private static void eventsShown() {
        CHECK.says("EVENTS: each TERM that is sent can be LOST, at each \"show\" at which both are one can MISREAD");
        String shows = Texts.times(2, "a show g;b show g", ";");
        for (int n = 5; n <= 8; n++) {
            HandShakes x = CHECK.with(shows + ";" + Texts.times(n, "a send g", ";"));
            if (n + 2 <= 8) {
                shares(x, 0, 50, 50, 3, 1, 1);
            } else {
                none(x, 0, 50, 50);
            }
        }
        HandShakes x = CHECK.with(Texts.times(5, "a show g;b show g", ";") + ";a sure g;b sure g", Texts.times(7, "a send g;", "")
                + "a show g;b show g;b sure g", Texts.times(8, "a send g;", "") + "a show g;b show g;b sure g");
        shares(x, 0, 0, 1, 0, power(99, 5), power(100, 5));
        shares(x, 0, 0, 1, 3, power(100, 5) - power(99, 5), power(100, 5));
        shares(x, 1, 7, 1, 2, 99, 100);
        none(x, 2, 7, 1);
    }

    /** Nine or more TERMS and shows stand in the TEXT, but no RUN has more than eight of them. */
    private static void eventsNotThere() {
        CHECK.says("NONE (also if a RUN has more than 8 EVENTS)");
        HandShakes x = CHECK.with(Texts.times(8, "a send g;", "") + "a show g;b sure g",
                Texts.times(8, "a send g;", "") + "a take g;a send g;b take name 0;b send g", "b send g;" + Texts.times(6, "a send g;", "")
                + "a show lot 0;b show lot 0;a send g;a send g",
                "b send g;" + Texts.times(7, "a send g;", "") + "a show lot 0;b show lot 0;a send g");
        shares(x, 0, 50, 0, 2, 1, 1);
        shares(x, 1, 50, 0, 3, 1, 1);
        // An unlike show is an EVENT, too; behind it nothing is.
        shares(x, 2, 50, 0, 3, 1, 1);
        none(x, 3, 50, 0);
    }

    private static void eventsOfNoShare() {
        CHECK.says("NONE (also if a RUN has more than 8 EVENTS)");
        // The ninth EVENT comes only if one of the eight is not LOST: that RUN is one also if its SHARE is 0.
        HandShakes x = CHECK.with(Texts.times(8, "a send g;", "") + "a show g;b take g;b show g", Texts.times(7, "a send g;", "")
                + "a show g;b take g;b show g");
        none(x, 0, 100, 0);
        none(x, 0, 0, 100);
        shares(x, 1, 100, 0, 3, 1, 1);
    }

    private static void eventsAnew() {
        CHECK.says("NONE (also if a RUN has more than 8 EVENTS)");
        // Nine EVENTS only if the first TERM is LOST: b STOPS else. What is asked then begins anew.
        HandShakes x = CHECK.with("a send g;a send name 0;" + Texts.times(5, "a send g;", "") + "b take name 0;b send g;b send g",
                "a send g;b take g;b sure g", "a send g;a send name 0;" + Texts.times(5, "a send g;", "") + "b take name 0;b send g");
        none(x, 0, 10, 0);
        shares(x, 1, 10, 0, 2, 9, 10);
        shares(x, 2, 10, 0, 3, 1, 1);
        none(x, 0, 10, 0);
        shares(x, 1, 10, 0, 3, 1, 10);
    }

    private static void lost() {
        CHECK.says("what an END sends lies for the other one, in order; at \"take\" it takes the next that lies for it");
        HandShakes x = CHECK.with("a send name 0;a send name 1;b take name 1;b sure g", "a send name 0;a send name 1;b take name 0;b take name 1;b sure g",
                "a send name 0;a send name 1;b take x 0;b show x 0;a show name 1;b sure g", "a send g;a take g;a sure g");
        shares(x, 0, 10, 0, 2, 9, 100);
        shares(x, 1, 10, 0, 2, 81, 100);
        shares(x, 2, 10, 0, 2, 9, 100);
        // What one sends does not lie for itself.
        shares(x, 3, 0, 0, 3, 1, 1);
    }

    private static void misread() {
        CHECK.says("one can MISREAD (both STOP then, also if the TERMS are the same)");
        HandShakes x = CHECK.with("a show g;b show g;a sure g;b sure g", "a show lot 0;b show lot 0;a sure g;b sure g",
                "a show g;a show g;b show g;b sure g", "a show g;b show g;a show g;b show g;a sure g");
        shares(x, 0, 50, 20, 0, 8, 10);
        shares(x, 0, 50, 20, 3, 2, 10);
        shares(x, 1, 50, 20, 3, 1, 1);
        shares(x, 1, 50, 100, 3, 1, 1);
        shares(x, 2, 50, 20, 2, 8, 10);
        shares(x, 3, 50, 20, 2, 64, 100);
    }

    private static void waits() {
        CHECK.says("(else it waits)");
        HandShakes x = CHECK.with("b take g;b sure g;a send g", "a take g;a send g;b take g;b send g;a sure g;b sure g",
                "a send g;b take g;b send g;a take g;a sure g;b sure g", "a show g;a sure g;b take g;b show g;b sure g", "a show g;a sure g");
        shares(x, 0, 25, 0, 2, 3, 4);
        shares(x, 1, 0, 0, 3, 1, 1);
        shares(x, 2, 25, 0, 0, 9, 16);
        shares(x, 2, 25, 0, 2, 3, 16);
        shares(x, 2, 25, 0, 3, 4, 16);
        shares(x, 3, 0, 0, 3, 1, 1);
        shares(x, 4, 0, 0, 3, 1, 1);
    }

    private static void inOrder() {
        CHECK.says("A RUN: ROOM 0 alone, the THIRD hands all on");
        // Twelve LINES, five TERMS to and fro: SURE at the end only if none is LOST.
        HandShakes x = CHECK.with("a send g;b take g;b send sum(g);a take sum(g);a send name 0;b take name 0;b send lot 0;a take x 0;"
                + "a send x 0;b take lot 0;a sure x 0;b sure lot 0");
        shares(x, 0, 1, 0, 0, power(99, 5), power(100, 5));
        shares(x, 0, 1, 0, 2, power(99, 4), power(100, 5));
        shares(x, 0, 1, 0, 3, power(100, 5) - power(99, 5) - power(99, 4), power(100, 5));
    }

    private static void stopsBySize() {
        CHECK.says("It STOPS at a LINE of which the TERM would have a SIZE above 30");
        for (int size = 29; size <= 31; size++) {
            String large = "pair(x 0," + Texts.sized(size - 16, "g") + ")";
            String start = "a send seal(" + Texts.sized(15, "g") + ",key 0);b take seal(x 0,key 0);";
            HandShakes x = CHECK.with(start + "b send " + large + ";b sure g", start + "b show " + large + ";a show g;b sure g",
                    start + "b sure " + large, start + "b send " + large + ";" + Texts.times(7, "a send g;", "") + "b sure g");
            shares(x, 0, 10, 0, 2, size <= 30 ? 9 : 0, size <= 30 ? 10 : 1);
            shares(x, 1, 10, 0, 2, 0, 1);
            shares(x, 2, 10, 0, 2, size <= 30 ? 9 : 0, size <= 30 ? 10 : 1);
            // With b's it would be the ninth TERM that is sent.
            if (size <= 30) {
                none(x, 3, 10, 0);
            } else {
                shares(x, 3, 10, 0, 3, 1, 1);
            }
        }
    }

    private static void manyTerms() {
        CHECK.says("A RUN: ROOM 0 alone, the THIRD hands all on");
        HandShakes x = CHECK.with("a send " + Texts.heavy("g") + ";a send " + Texts.heavy("name 0") + ";a send " + Texts.heavy("name 1")
                + ";a sure g;b take x 0;b sure x 0");
        shares(x, 0, 10, 0, 1, 999, 1000);
        shares(x, 0, 10, 0, 2, 1, 1000);
    }

    private static void fits(String take, String sent, int want) {
        HandShakes x = CHECK.with("b send " + sent + ";a take " + take + ";a sure g");
        shares(x, 0, 0, 0, 2, want, 1);
    }

    private static void fitsFromTheLeft() {
        CHECK.says("It fits, if it is that, with what stands in the place of a FREE \"x\" put for it, gone through from the left");
        fits("pair(x 0,x 1)", "pair(g,g)", 1);
        fits("pair(x 0,x 0)", "pair(g,g)", 1);
        fits("pair(x 0,x 0)", "pair(g,name 0)", 0);
        fits("pair(x 0,pair(x 0,x 1))", "pair(g,pair(g,lot 1))", 1);
        fits("pair(x 0,pair(x 1,x 0))", "pair(g,pair(g,lot 1))", 0);
        fits("seal(pair(x 0,name 0),x 1)", "seal(pair(lot 0,name 0),sum(lot 1))", 1);
        fits("seal(pair(x 0,name 0),x 1)", "seal(pair(lot 0,name 1),sum(lot 1))", 0);
        CHECK.says("a FREE \"x\" in a SUM or a RAISE, that does not stand ahead of it, fits nothing");
        fits("sum(x 0)", "sum(g)", 0);
        fits("raise(x 0,key 0)", "raise(g,key 0)", 0);
        fits("pair(sum(x 0),x 0)", "pair(sum(g),g)", 0);
        fits("pair(x 0,sum(x 0))", "pair(g,sum(g))", 1);
        fits("pair(x 0,sum(x 0))", "pair(g,sum(name 0))", 0);
        fits("pair(x 0,sum(pair(x 0,x 1)))", "pair(g,sum(pair(g,g)))", 0);
        fits("pair(pair(x 0,x 1),sum(pair(x 0,x 1)))", "pair(pair(g,name 0),sum(pair(g,name 0)))", 1);
        fits("pair(x 0,raise(x 0,key 0))", "pair(g,raise(g,key 0))", 1);
        fits("pair(raise(x 0,key 0),x 0)", "pair(raise(g,key 0),g)", 0);
        fits("pair(x 0,raise(sum(x 0),key 1))", "pair(g,raise(sum(g),key 1))", 1);
        fits("raise(sum(x 0),key 1)", "raise(sum(g),key 1)", 0);
        // An x of a take ahead is not FREE any more.
        HandShakes x = CHECK.with("b send g;b send sum(g);a take x 0;a take sum(x 0);a sure g", "b send g;b send sum(name 0);a take x 0;a take sum(x 0);a sure g",
                "b send g;b send g;a take x 0;a take x 0;a sure g", "b send g;b send name 0;a take x 0;a take x 0;a sure g");
        shares(x, 0, 0, 0, 2, 1, 1);
        shares(x, 1, 0, 0, 2, 0, 1);
        shares(x, 2, 0, 0, 2, 1, 1);
        shares(x, 3, 0, 0, 2, 0, 1);
    }

    private static void lucks(HandShakes x, int bits, int tries, long upper, long lower) {
        due("luck(" + bits + ", " + tries + ", 0)", x.luck(bits, tries, 0), upper);
        due("luck(" + bits + ", " + tries + ", 1)", x.luck(bits, tries, 1), lower);
    }

    private static void bits() {
        CHECK.says("by SUMS of b bits (1 .. 12)");
        HandShakes x = new HandShakes();
        for (int b = 1; b <= 12; b++) {
            lucks(x, b, 1, 1, 1L << b);
        }
        for (int wrong : new int[] {LEAST, -1, 0, 13, 14, 60, MOST}) {
            lucks(x, wrong, 1, -1, -1);
            lucks(x, wrong, 0, -1, -1);
        }
        lucks(x, -1, -60, -1, -1);
    }

    private static void tries() {
        CHECK.says("t tries .. with 1 less (1 less 1 through 2 to the b) to the t");
        HandShakes x = new HandShakes();
        for (int b = 1; b <= 12; b++) {
            // Without a try nobody gets by: 1 less 1.
            lucks(x, b, 0, 0, 1);
            lucks(x, b, -1, -1, -1);
            lucks(x, b, 2, (1L << b + 1) - 1, 1L << 2 * b);
        }
        lucks(x, 1, LEAST, -1, -1);
        lucks(x, 1, MOST, -1, -1);
    }

    private static void product() {
        CHECK.says("(b times t at most 60)");
        HandShakes x = new HandShakes();
        for (int b = 1; b <= 12; b++) {
            int most = 60 / b;
            for (int t = most - 1; t <= most; t++) {
                long whole = 1L << b * t;
                lucks(x, b, t, whole - power((1L << b) - 1, t), whole);
            }
            lucks(x, b, most + 1, -1, -1);
        }
        // Products that wrap around to 60 or below.
        lucks(x, 4, 1 << 30, -1, -1);
        lucks(x, 12, 357913942, -1, -1);
        lucks(x, 8, 536870913, -1, -1);
        lucks(x, 2, MOST, -1, -1);
        lucks(x, 12, 715827883, -1, -1);
        CHECK.says("upper (what 0), lower number (1). NONE");
        for (int wrong : new int[] {LEAST, -1, 2, 3, MOST}) {
            due("luck(1, 1, " + wrong + ")", x.luck(1, 1, wrong), -1);
        }
    }

    private static void luckTerms() {
        CHECK.says("upper and lower number in lowest terms");
        HandShakes x = new HandShakes();
        for (int b = 1; b <= 12; b++) {
            for (int t = 1; b * t <= 60; t++) {
                long upper = x.luck(b, t, 0);
                long lower = x.luck(b, t, 1);
                due("common of luck(" + b + ", " + t + ")", common(upper, lower), 1);
            }
        }
        lucks(x, 1, 60, (1L << 60) - 1, 1L << 60);
        lucks(x, 12, 5, (1L << 60) - power(4095, 5), 1L << 60);
    }
}
