/** Terms V, sentence by sentence, at the bound and beside it: PEOPLE, DAYS, VOUCHED, REACH, BACK, the GROUP, TIMES, IMAGES. */
public final class BoundsLifeTest {
    private static final Check CHECK = new Check();
    private static final int LEAST = Integer.MIN_VALUE;
    private static final int MOST = Integer.MAX_VALUE;
    private static final int[] NO_PERSON = {LEAST, -1, 20, 21, 32, 51, MOST};
    private static final int[] NO_DAY = {LEAST, -1, 400, 401, MOST};

    private BoundsLifeTest() {
    }

    public static void main(String[] args) {
        people();
        days();
        reaches();
        forItself();
        vouchedLimit();
        fromADay();
        knownFromADay();
        backFromADay();
        backOnce();
        backOrder();
        reachOfEach();
        reachOneBelow();
        shortestRow();
        rowsThatStand();
        hangs();
        hangsOnMany();
        hangsBounds();
        groupPeople();
        groupInAndOut();
        timesByComing();
        timesByGoing();
        ruleNought();
        ruleOneComes();
        ruleOneGoes();
        ruleAtTheFirstTime();
        rulesOfEach();
        groupTimes();
        images();
        imagesOfAll();
        imagesOfEachPart();
        imagesStay();
        fullImages();
        CHECK.close();
    }

    private static void due(String call, long got, long want) {
        CHECK.due(call, got, want);
    }

    private static void people() {
        CHECK.says("PEOPLE 0 .. 19");
        HandShakes x = new HandShakes();
        int number = 0;
        for (int one : new int[] {0, 1, 18, 19}) {
            for (int other : new int[] {0, 1, 18, 19}) {
                if (one != other) {
                    due("vouch(" + one + ", " + other + ")", x.vouch(one, other, 0, 0, 0), number++);
                    due("sure(" + one + ", " + other + ")", x.sure(one, other, 0, 0), 1);
                }
            }
            due("sure(" + one + ", " + one + ")", x.sure(one, one, 0, 0), 0);
        }
        for (int wrong : NO_PERSON) {
            due("vouch(" + wrong + ", 0)", x.vouch(wrong, 0, 0, 0, 0), -1);
            due("vouch(0, " + wrong + ")", x.vouch(0, wrong, 0, 0, 0), -1);
            due("vouch(" + wrong + ", " + wrong + ")", x.vouch(wrong, wrong, 0, 0, 0), -1);
            due("sure(" + wrong + ", 0)", x.sure(wrong, 0, 0, 0), -1);
            due("sure(0, " + wrong + ")", x.sure(0, wrong, 0, 0), -1);
            due("sure(" + wrong + ", " + wrong + ")", x.sure(wrong, wrong, 0, 0), -1);
        }
        due("count(3)", x.count(3), number);
    }

    private static void days() {
        CHECK.says("DAYS 0 .. 399");
        HandShakes x = new HandShakes();
        int number = 0;
        for (int day : new int[] {0, 1, 398, 399}) {
            due("vouch(day " + day + ")", x.vouch(0, 1, 0, day, 0), number++);
            due("vouch(known " + day + ")", x.vouch(0, 1, 0, 0, day), number++);
            due("sure(day " + day + ")", x.sure(0, 1, day, 0), 1);
            due("sure(known " + day + ")", x.sure(0, 1, 0, day), 1);
            due("hangs(day " + day + "): another one stands, too", x.hangs(0, day, 0), 0);
            due("back(day " + day + ")", x.back(number - 1, day), 0);
        }
        for (int wrong : NO_DAY) {
            due("vouch(day " + wrong + ")", x.vouch(0, 1, 0, wrong, 0), -1);
            due("vouch(known " + wrong + ")", x.vouch(0, 1, 0, 0, wrong), -1);
            due("back(day " + wrong + ")", x.back(0, wrong), -1);
            due("sure(day " + wrong + ")", x.sure(0, 1, wrong, 0), -1);
            due("sure(known " + wrong + ")", x.sure(0, 1, 0, wrong), -1);
            due("sure(oneself, day " + wrong + ")", x.sure(1, 1, wrong, 0), -1);
            due("sure(oneself, known " + wrong + ")", x.sure(1, 1, 0, wrong), -1);
            due("hangs(day " + wrong + ")", x.hangs(0, wrong, 0), -1);
            due("hangs(known " + wrong + ")", x.hangs(0, 0, wrong), -1);
        }
        due("count(3)", x.count(3), number);
    }

    private static void reaches() {
        CHECK.says("with a REACH 0 .. 5");
        HandShakes x = new HandShakes();
        for (int reach = 0; reach <= 5; reach++) {
            due("vouch(reach " + reach + ")", x.vouch(0, 1, reach, 0, 0), reach);
        }
        for (int wrong : new int[] {LEAST, -1, 6, 7, MOST}) {
            due("vouch(reach " + wrong + ")", x.vouch(0, 1, wrong, 0, 0), -1);
            due("status()", x.status(), -1);
        }
        due("count(3)", x.count(3), 6);
    }

    private static void forItself() {
        CHECK.says("VOUCHED: its number. -1; -3 for itself; -5");
        HandShakes x = new HandShakes();
        for (int one = 0; one < 20; one++) {
            due("vouch(" + one + ", " + one + ")", x.vouch(one, one, 5, 399, 399), -3);
        }
        due("vouch for itself, reach 6", x.vouch(0, 0, 6, 0, 0), -1);
        due("vouch for itself, day 400", x.vouch(0, 0, 0, 400, 0), -1);
        due("vouch for itself, known 400", x.vouch(0, 0, 0, 0, 400), -1);
        due("count(3)", x.count(3), 0);
        due("hangs(0)", x.hangs(0, 0, 0), -1);
    }

    private static void vouchedLimit() {
        CHECK.says("VOUCHED, 120 at most");
        HandShakes x = new HandShakes();
        for (int i = 0; i < 118; i++) {
            due("vouch " + i, x.vouch(0, 1, 0, 0, 0), i);
        }
        due("vouch 118", x.vouch(2, 3, 0, 0, 0), 118);
        due("hangs(119)", x.hangs(119, 0, 0), -1);
        due("back(119)", x.back(119, 0), -2);
        due("vouch 119", x.vouch(4, 5, 0, 0, 0), 119);
        due("vouch 120", x.vouch(6, 7, 0, 0, 0), -5);
        due("status()", x.status(), -5);
        due("vouch 120 for itself", x.vouch(6, 6, 0, 0, 0), -3);
        due("vouch 120 of nobody", x.vouch(6, 20, 0, 0, 0), -1);
        due("count(3)", x.count(3), 120);
        due("sure(2, 3)", x.sure(2, 3, 0, 0), 1);
        due("sure(4, 5)", x.sure(4, 5, 0, 0), 1);
        due("sure(6, 7)", x.sure(6, 7, 0, 0), -1);
        due("hangs(119)", x.hangs(119, 0, 0), 1);
        due("hangs(120)", x.hangs(120, 0, 0), -1);
        due("back(119)", x.back(119, 0), 0);
        due("back(120)", x.back(120, 0), -2);
        due("vouch 120: one that is taken BACK leaves no place", x.vouch(6, 7, 0, 0, 0), -5);
        due("sure(4, 5)", x.sure(4, 5, 0, 0), -1);
    }

    private static void fromADay() {
        CHECK.says("from a DAY on");
        for (int day : new int[] {0, 1, 200, 398, 399}) {
            HandShakes x = new HandShakes();
            x.vouch(3, 4, 0, day, 0);
            for (int on = Math.max(0, day - 2); on <= Math.min(399, day + 2); on++) {
                due("sure(day " + on + ") from " + day, x.sure(3, 4, on, 399), on >= day ? 1 : -1);
                due("hangs(day " + on + ") from " + day, x.hangs(0, on, 399), on >= day ? 1 : 0);
            }
        }
    }

    private static void knownFromADay() {
        CHECK.says("known from a DAY on");
        for (int known : new int[] {0, 1, 200, 398, 399}) {
            HandShakes x = new HandShakes();
            x.vouch(3, 4, 0, 0, known);
            for (int as = Math.max(0, known - 2); as <= Math.min(399, known + 2); as++) {
                due("sure(known " + as + ") from " + known, x.sure(3, 4, 399, as), as >= known ? 1 : -1);
                due("hangs(known " + as + ") from " + known, x.hangs(0, 399, as), as >= known ? 1 : 0);
            }
        }
    }

    private static void backFromADay() {
        CHECK.says("taken BACK from a DAY on (once), known at once");
        for (int back : new int[] {0, 1, 200, 398, 399}) {
            HandShakes x = new HandShakes();
            x.vouch(3, 4, 0, 0, 0);
            due("sure() ahead of back()", x.sure(3, 4, 399, 0), 1);
            due("back(0, " + back + ")", x.back(0, back), 0);
            for (int on = Math.max(0, back - 2); on <= Math.min(399, back + 2); on++) {
                due("sure(day " + on + ") BACK from " + back, x.sure(3, 4, on, 0), on < back ? 1 : -1);
                due("sure(day " + on + ", known 399) BACK from " + back, x.sure(3, 4, on, 399), on < back ? 1 : -1);
                due("hangs(day " + on + ") BACK from " + back, x.hangs(0, on, 0), on < back ? 1 : 0);
            }
        }
        // BACK on the DAY it begins, one ahead of it, one behind it.
        for (int back = 9; back <= 11; back++) {
            HandShakes x = new HandShakes();
            x.vouch(3, 4, 0, 10, 0);
            due("back(0, " + back + ")", x.back(0, back), 0);
            for (int on = 8; on <= 12; on++) {
                due("sure(day " + on + ") from 10, BACK from " + back, x.sure(3, 4, on, 0), on == 10 && back == 11 ? 1 : -1);
            }
        }
    }

    private static void backOnce() {
        CHECK.says("Taken BACK: 0. -1; -2 there is none such; -4");
        HandShakes x = new HandShakes();
        due("back(0) of none", x.back(0, 0), -2);
        x.vouch(0, 1, 0, 0, 0);
        x.vouch(0, 1, 0, 0, 0);
        due("back(1, 0)", x.back(1, 0), 0);
        due("back(1, 0) again", x.back(1, 0), -4);
        due("back(1, 399) again", x.back(1, 399), -4);
        due("status()", x.status(), -4);
        due("back(0, 399)", x.back(0, 399), 0);
        due("back(0, 0) again", x.back(0, 0), -4);
        due("sure(): still from the first DAY told", x.sure(0, 1, 398, 0), 1);
    }

    private static void backOrder() {
        CHECK.says("Taken BACK: 0. -1; -2 there is none such; -4");
        HandShakes x = new HandShakes();
        x.vouch(0, 1, 0, 0, 0);
        for (int none : new int[] {LEAST, -2, -1, 1, 2, 119, 120, MOST}) {
            due("back(" + none + ", 0)", x.back(none, 0), -2);
            due("back(" + none + ", 399)", x.back(none, 399), -2);
            due("back(" + none + ", 400)", x.back(none, 400), -1);
            due("back(" + none + ", -1)", x.back(none, -1), -1);
        }
        due("back(0, 399)", x.back(0, 399), 0);
        due("back(0, 400) of one that was taken BACK", x.back(0, 400), -1);
        due("back(0, 0) of one that was taken BACK", x.back(0, 0), -4);
    }

    /** A row 0, 1, .. n, each with just the REACH that is asked. */
    private static HandShakes row(int n, int shortened) {
        HandShakes x = new HandShakes();
        for (int i = 0; i < n; i++) {
            int follow = n - 1 - i;
            x.vouch(i, i + 1, Math.min(5, Math.max(0, i == shortened ? follow - 1 : follow)), 0, 0);
        }
        return x;
    }

    private static void reachOfEach() {
        CHECK.says("the REACH of each is at least how many follow it");
        for (int n = 1; n <= 8; n++) {
            HandShakes x = row(n, -1);
            due("sure() by a row of " + n, x.sure(0, n, 0, 0), n <= 6 ? n : -1);
            due("sure() of the second one by a row of " + (n - 1), x.sure(1, n, 0, 0), n - 1 <= 6 ? n - 1 : -1);
            due("sure() the other way", x.sure(n, 0, 0, 0), -1);
        }
    }

    private static void reachOneBelow() {
        CHECK.says("the REACH of each is at least how many follow it");
        for (int n = 2; n <= 6; n++) {
            for (int shortened = 0; shortened < n - 1; shortened++) {
                HandShakes x = row(n, shortened);
                due("sure() by a row of " + n + ", number " + shortened + " shortened", x.sure(0, n, 0, 0), -1);
                due("sure() up to the last but one", x.sure(0, n - 1, 0, 0), n - 1);
                due("sure() behind the shortened one", x.sure(shortened + 1, n, 0, 0), n - 1 - shortened);
            }
        }
    }

    private static void shortestRow() {
        CHECK.says("STEPS: how many there are in the shortest row");
        HandShakes x = row(6, -1);
        due("sure(0, 6)", x.sure(0, 6, 0, 0), 6);
        x.vouch(0, 2, 4, 0, 0);
        due("sure(0, 6) with 0 for 2", x.sure(0, 6, 0, 0), 5);
        x.vouch(0, 5, 0, 0, 0);
        due("sure(0, 6): 0 for 5 reaches not so far", x.sure(0, 6, 0, 0), 5);
        due("sure(0, 5)", x.sure(0, 5, 0, 0), 1);
        x.vouch(0, 5, 1, 0, 0);
        due("sure(0, 6) with 0 for 5", x.sure(0, 6, 0, 0), 2);
        x.vouch(0, 6, 0, 0, 0);
        due("sure(0, 6) with 0 for 6", x.sure(0, 6, 0, 0), 1);
        due("sure(0, 0): oneself, whoever vouches", x.sure(0, 0, 0, 0), 0);
    }

    private static void rowsThatStand() {
        CHECK.says("that stand then and are known");
        HandShakes x = new HandShakes();
        x.vouch(0, 1, 1, 10, 20);
        x.vouch(1, 2, 0, 12, 18);
        x.back(0, 14);
        int[][] asked = {{11, 20, -1}, {12, 20, 2}, {13, 20, 2}, {14, 20, -1}, {12, 19, -1}, {13, 399, 2}, {399, 399, -1}};
        for (int[] one : asked) {
            due("sure(0, 2, " + one[0] + ", " + one[1] + ")", x.sure(0, 2, one[0], one[1]), one[2]);
        }
        due("sure(1, 2, 14, 18)", x.sure(1, 2, 14, 18), 1);
        due("sure(1, 2, 14, 17)", x.sure(1, 2, 14, 17), -1);
    }

    private static void hangs() {
        CHECK.says("HANGS on a VOUCHED one: how many pairs (one, other) are SURE that are not without it");
        HandShakes x = row(6, -1);
        // Of a row with REACH 5 .. 0: i is SURE of all behind it; (i, j) hangs on each between them.
        for (int number = 0; number < 6; number++) {
            due("hangs(" + number + ")", x.hangs(number, 0, 0), (number + 1L) * (6 - number));
        }
        x.vouch(0, 1, 5, 0, 0);
        due("hangs(0): another one does the same", x.hangs(0, 0, 0), 0);
        due("hangs(6)", x.hangs(6, 0, 0), 0);
        due("hangs(1)", x.hangs(1, 0, 0), 10);
        // A round: oneself does not count.
        HandShakes y = new HandShakes();
        y.vouch(0, 1, 5, 0, 0);
        y.vouch(1, 0, 5, 0, 0);
        due("hangs(0) of a round", y.hangs(0, 0, 0), 1);
        due("hangs(1) of a round", y.hangs(1, 0, 0), 1);
    }

    /** Nine for one, one for another, who vouches for nine: all of them hang on the one in the middle. */
    private static void hangsOnMany() {
        CHECK.says("HANGS on a VOUCHED one: how many pairs (one, other) are SURE that are not without it");
        HandShakes x = new HandShakes();
        x.vouch(18, 19, 5, 0, 0);
        for (int i = 0; i < 9; i++) {
            x.vouch(i, 18, 5, 0, 0);
            x.vouch(19, 9 + i, 5, 0, 0);
        }
        due("hangs(0)", x.hangs(0, 0, 0), 1 + 9 + 9 + 81);
        due("hangs(1)", x.hangs(1, 0, 0), 1 + 1 + 9);
        due("hangs(2)", x.hangs(2, 0, 0), 1 + 1 + 9);
        // All for each other: nothing hangs on a single one but its own pair, which has a row of two.
        HandShakes y = new HandShakes();
        for (int i = 0; i < 120; i++) {
            int one = i / 10;
            int other = i % 10 < one ? i % 10 : i % 10 + 1;
            due("vouch " + i, y.vouch(one, other, 5, 0, 0), i);
        }
        due("hangs(0) of 120", y.hangs(0, 0, 0), 0);
        due("hangs(119) of 120", y.hangs(119, 0, 0), 0);
        due("sure(11, 0)", y.sure(11, 0, 0, 0), 1);
        due("sure(11, 11)", y.sure(11, 11, 0, 0), 0);
        due("sure(0, 11)", y.sure(0, 11, 0, 0), -1);
    }

    private static void hangsBounds() {
        CHECK.says("HANGS on a VOUCHED one on a DAY as known; NONE");
        HandShakes x = new HandShakes();
        due("hangs(0) of none", x.hangs(0, 0, 0), -1);
        x.vouch(0, 1, 0, 5, 7);
        due("hangs(0, 5, 7)", x.hangs(0, 5, 7), 1);
        due("hangs(0, 4, 7)", x.hangs(0, 4, 7), 0);
        due("hangs(0, 5, 6)", x.hangs(0, 5, 6), 0);
        for (int none : new int[] {LEAST, -1, 1, 2, 119, 120, MOST}) {
            due("hangs(" + none + ")", x.hangs(none, 5, 7), -1);
        }
    }

    // ---- the GROUP ----

    private static void groupPeople() {
        CHECK.says("A GROUP of PEOPLE 0 .. 7");
        HandShakes x = new HandShakes();
        for (int wrong : new int[] {LEAST, -1, 8, 9, 31, 32, 33, MOST}) {
            due("come(" + wrong + ")", x.come(wrong), -1);
            due("status()", x.status(), -1);
            due("go(" + wrong + ")", x.go(wrong), -1);
            due("status()", x.status(), -1);
        }
        due("count(4)", x.count(4), 0);
        int in = 0;
        for (int one = 0; one <= 7; one++) {
            in |= 1 << one;
            due("come(" + one + ")", x.come(one), one + 1);
            due("group(" + (one + 1) + ", 0)", x.group(one + 1, 0), in);
            due("group(" + (one + 1) + ", 1)", x.group(one + 1, 1), in);
        }
        for (int one = 0; one <= 7; one++) {
            in &= ~(1 << one);
            due("go(" + one + ")", x.go(one), one + 9);
            due("group(" + (one + 9) + ", 0)", x.group(one + 9, 0), in);
            due("group(" + (one + 9) + ", 1)", x.group(one + 9, 1), in);
        }
    }

    private static void groupInAndOut() {
        CHECK.says("-3 in already; -3 not in");
        HandShakes x = new HandShakes();
        for (int one = 0; one <= 7; one++) {
            due("go(" + one + ") of an empty GROUP", x.go(one), -3);
        }
        due("come(4)", x.come(4), 1);
        due("come(4) again", x.come(4), -3);
        due("count(4)", x.count(4), 1);
        due("go(3)", x.go(3), -3);
        due("go(5)", x.go(5), -3);
        due("go(4)", x.go(4), 2);
        due("go(4) again", x.go(4), -3);
        due("come(4)", x.come(4), 3);
        due("group(1, 0): as it was", x.group(1, 0), 16);
        due("group(2, 0): as it was", x.group(2, 0), 0);
    }

    private static void timesByComing() {
        CHECK.says("TIMES 0 .. 30 .. -5 30 TIMES");
        HandShakes x = new HandShakes();
        for (int time = 1; time <= 30; time++) {
            due("time " + time, time % 2 == 1 ? x.come(7) : x.go(7), time);
            due("count(4)", x.count(4), time);
        }
        due("come(7) as the 31st", x.come(7), -5);
        due("status()", x.status(), -5);
        due("come(0) as the 31st", x.come(0), -5);
        due("go(7), which is not in", x.go(7), -3);
        due("come(8)", x.come(8), -1);
        due("count(4)", x.count(4), 30);
        due("group(30, 0)", x.group(30, 0), 0);
        due("group(29, 0)", x.group(29, 0), 128);
        due("group(31, 0)", x.group(31, 0), -1);
    }

    private static void timesByGoing() {
        CHECK.says("TIMES 0 .. 30 .. -1; -3 not in; -5");
        HandShakes x = new HandShakes();
        x.come(1);
        for (int time = 2; time <= 29; time++) {
            due("time " + time, time % 2 == 0 ? x.come(0) : x.go(0), time);
        }
        due("come(0) as the 30th", x.come(0), 30);
        due("go(0) as the 31st", x.go(0), -5);
        due("status()", x.status(), -5);
        due("go(1) as the 31st", x.go(1), -5);
        due("come(1), who is in", x.come(1), -3);
        due("go(-1)", x.go(-1), -1);
        due("group(30, 0)", x.group(30, 0), 3);
    }

    private static void ruleNought() {
        CHECK.says("by rule 0 its secret SEALED by the own one of each who is in then");
        HandShakes x = new HandShakes();
        x.come(0);
        x.come(1);
        x.come(2);
        x.go(1);
        x.come(3);
        int[] in = {0, 1, 3, 7, 5, 13};
        for (int time = 0; time <= 5; time++) {
            due("group(" + time + ", 0)", x.group(time, 0), in[time]);
            due("group(" + time + ", 1)", x.group(time, 1), in[time]);
        }
    }

    private static void ruleOneComes() {
        CHECK.says("by rule 1 .. SEALED by the secret of the TIME before (if that is not 0), and, of a COME, by the own one of who comes");
        HandShakes x = new HandShakes();
        due("rules(1, 0)", x.rules(1, 0), 0);
        x.come(0);
        x.come(1);
        x.come(2);
        x.go(0);
        x.come(3);
        int[] in = {0, 1, 3, 7, 6, 14};
        for (int time = 0; time <= 5; time++) {
            due("group(" + time + ", 0)", x.group(time, 0), in[time]);
            due("group(" + time + ", 1)", x.group(time, 1), in[time]);
        }
    }

    private static void ruleOneGoes() {
        CHECK.says("by rule 1 .. SEALED by the secret of the TIME before (if that is not 0)");
        HandShakes x = new HandShakes();
        due("rules(0, 1)", x.rules(0, 1), 0);
        x.come(0);
        x.come(1);
        x.go(0);
        x.go(1);
        x.come(0);
        int[] in = {0, 1, 3, 2, 0, 1};
        int[] can = {0, 1, 3, 3, 3, 1};
        for (int time = 0; time <= 5; time++) {
            due("group(" + time + ", 0)", x.group(time, 0), in[time]);
            due("group(" + time + ", 1)", x.group(time, 1), can[time]);
        }
    }

    private static void ruleAtTheFirstTime() {
        CHECK.says("(if that is not 0)");
        for (int come = 0; come <= 1; come++) {
            HandShakes x = new HandShakes();
            x.rules(come, 1);
            x.come(6);
            due("group(1, 1) by rule " + come, x.group(1, 1), 64);
            x.go(6);
            due("group(2, 1): by the secret of TIME 1", x.group(2, 1), 64);
            due("group(2, 0)", x.group(2, 0), 0);
            x.come(5);
            due("group(3, 1) by rule " + come, x.group(3, 1), come == 0 ? 32 : 64 + 32);
        }
        // By rule 0 a GROUP that is empty again sends its secret to nobody; by rule 1 that secret SEALS nobody's way in.
        HandShakes y = new HandShakes();
        y.come(0);
        y.go(0);
        y.rules(1, 1);
        y.come(1);
        due("group(2, 1)", y.group(2, 1), 0);
        due("group(3, 1)", y.group(3, 1), 2);
    }

    private static void rulesOfEach() {
        CHECK.says("Rules of COMES, GOES (0, 1 each) from now on: 0; -1");
        HandShakes x = new HandShakes();
        for (int come = 0; come <= 1; come++) {
            for (int go = 0; go <= 1; go++) {
                due("rules(" + come + ", " + go + ")", x.rules(come, go), 0);
            }
        }
        for (int wrong : new int[] {LEAST, -1, 2, 3, MOST}) {
            for (int good = 0; good <= 1; good++) {
                due("rules(" + wrong + ", " + good + ")", x.rules(wrong, good), -1);
                due("rules(" + good + ", " + wrong + ")", x.rules(good, wrong), -1);
            }
        }
        x.come(0);
        x.come(1);
        x.go(0);
        due("group(3, 1): rules(1, 1) still", x.group(3, 1), 3);
        // Of each told: a refused one changes neither.
        HandShakes y = new HandShakes();
        due("rules(1, 2)", y.rules(1, 2), -1);
        due("rules(2, 1)", y.rules(2, 1), -1);
        y.come(0);
        y.go(0);
        due("group(2, 1): rule 0 of GOES", y.group(2, 1), 0);
        y.come(1);
        y.come(2);
        y.rules(1, 0);
        due("group(4, 1): from now on alone", y.group(4, 1), 6);
    }

    private static void groupTimes() {
        CHECK.says("Who is in at a TIME .. who can MAKE its secret now (1; 0 at TIME 0). NONE (a TIME that was not yet, too)");
        HandShakes x = new HandShakes();
        int[] wrongs = {LEAST, -1, 2, 3, MOST};
        due("group(0, 0)", x.group(0, 0), 0);
        due("group(0, 1)", x.group(0, 1), 0);
        due("group(1, 0) is not yet", x.group(1, 0), -1);
        due("group(1, 1) is not yet", x.group(1, 1), -1);
        x.come(2);
        due("group(1, 0)", x.group(1, 0), 4);
        due("group(0, 0)", x.group(0, 0), 0);
        due("group(0, 1)", x.group(0, 1), 0);
        due("group(2, 0) is not yet", x.group(2, 0), -1);
        for (int wrong : wrongs) {
            due("group(1, " + wrong + ")", x.group(1, wrong), -1);
            due("group(" + wrong + ", 0)", x.group(wrong, 0), -1);
            due("group(" + wrong + ", 1)", x.group(wrong, 1), -1);
        }
        due("group(30, 0)", x.group(30, 0), -1);
        due("group(31, 0)", x.group(31, 0), -1);
    }

    // ---- IMAGES ----

    private static void images() {
        CHECK.says("IMAGES 0, 1 .. IMAGE k is kept: 0; -1 .. BACK to IMAGE k: 0. -1; -2 it was not kept");
        HandShakes x = new HandShakes();
        for (int wrong : new int[] {LEAST, -1, 2, 3, MOST}) {
            due("image(" + wrong + ")", x.image(wrong), -1);
            due("status()", x.status(), -1);
            due("restore(" + wrong + ")", x.restore(wrong), -1);
            due("status()", x.status(), -1);
        }
        for (int k = 0; k <= 1; k++) {
            due("restore(" + k + ") of none", x.restore(k), -2);
            due("status()", x.status(), -2);
            due("image(" + k + ")", x.image(k), 0);
            due("status()", x.status(), 0);
            due("restore(" + k + ")", x.restore(k), 0);
        }
    }

    private static void imagesOfAll() {
        CHECK.says("IMAGES 0, 1 keep V.; BACK to one it is as it was then");
        HandShakes x = new HandShakes();
        due("image(0): a new one", x.image(0), 0);
        x.vouch(0, 1, 0, 0, 0);
        x.rules(1, 1);
        x.come(0);
        x.image(1);
        x.vouch(1, 2, 0, 0, 0);
        x.back(0, 5);
        x.rules(0, 0);
        x.come(1);
        x.go(0);
        Tape.have(x, "g");
        Tape.put(x, "lot 0");
        due("restore(1)", x.restore(1), 0);
        due("count(3)", x.count(3), 1);
        due("count(4)", x.count(4), 1);
        due("count(2): only V.", x.count(2), 1);
        due("count(5): only V.", x.count(5), 5);
        due("sure(0, 1): not taken BACK", x.sure(0, 1, 5, 0), 1);
        due("back(0): not taken BACK", x.back(0, 5), 0);
        due("group(2, 0)", x.group(2, 0), -1);
        due("come(1)", x.come(1), 2);
        due("go(0): by the rules of then", x.go(0), 3);
        due("group(3, 1)", x.group(3, 1), 3);
        due("restore(0)", x.restore(0), 0);
        due("count(3)", x.count(3), 0);
        due("count(4)", x.count(4), 0);
        due("vouch: numbers as then", x.vouch(7, 8, 0, 0, 0), 0);
        due("back(0): a new one", x.back(0, 0), 0);
        due("come(0)", x.come(0), 1);
        due("go(0): by the rules of then", x.go(0), 2);
        due("group(2, 1)", x.group(2, 1), 0);
    }

    /** Each part of a VOUCHED one, a rule, a TIME is another one in between. */
    private static void imagesOfEachPart() {
        CHECK.says("BACK to one it is as it was then");
        HandShakes x = new HandShakes();
        x.image(1);
        x.vouch(2, 3, 1, 10, 20);
        x.vouch(3, 4, 0, 10, 20);
        x.rules(1, 1);
        x.come(5);
        x.come(6);
        x.go(5);
        x.rules(1, 0);
        x.image(0);
        int[][] others = {{7, 3, 1, 10, 20}, {2, 7, 1, 10, 20}, {2, 3, 0, 10, 20}, {2, 3, 1, 11, 20}, {2, 3, 1, 10, 21}, {2, 3, 5, 0, 0}};
        for (int[] other : others) {
            x.restore(1);
            x.vouch(other[0], other[1], other[2], other[3], other[4]);
            x.vouch(8, 9, 5, 0, 0);
            x.back(1, 0);
            x.rules(0, 1);
            x.come(1);
            x.come(2);
            x.come(3);
            due("restore(0)", x.restore(0), 0);
            due("sure(2, 4, 10, 20)", x.sure(2, 4, 10, 20), 2);
            due("sure(2, 4, 9, 20)", x.sure(2, 4, 9, 20), -1);
            due("sure(2, 4, 10, 19)", x.sure(2, 4, 10, 19), -1);
            due("group(1, 0)", x.group(1, 0), 32);
            due("group(2, 0)", x.group(2, 0), 96);
            due("group(3, 0)", x.group(3, 0), 64);
            due("group(3, 1): who went by rule 1", x.group(3, 1), 96);
            due("come(0)", x.come(0), 4);
            due("go(6)", x.go(6), 5);
            due("group(4, 1): rule 1 of COMES", x.group(4, 1), 97);
            due("group(5, 1): rule 0 of GOES", x.group(5, 1), 1);
            x.restore(1);
            x.come(7);
            x.go(7);
            due("group(2, 1): rule 0 of both", x.group(2, 1), 0);
        }
    }

    private static void imagesStay() {
        CHECK.says("(IMAGES stay)");
        HandShakes x = new HandShakes();
        x.come(0);
        x.image(0);
        x.come(1);
        x.image(1);
        for (int round = 0; round < 3; round++) {
            due("restore(0)", x.restore(0), 0);
            due("count(4)", x.count(4), 1);
            x.vouch(0, 1, 0, 0, 0);
            x.go(0);
            due("restore(1)", x.restore(1), 0);
            due("count(4)", x.count(4), 2);
            due("count(3)", x.count(3), 0);
            due("group(2, 0)", x.group(2, 0), 3);
        }
        x.come(2);
        due("image(0) anew", x.image(0), 0);
        due("restore(1)", x.restore(1), 0);
        due("count(4)", x.count(4), 2);
        due("restore(0)", x.restore(0), 0);
        due("count(4)", x.count(4), 3);
        x.restore(9);
        due("count(4): a refused one changes nothing", x.count(4), 3);
    }

    private static void fullImages() {
        CHECK.says("IMAGES 0, 1 keep V.; BACK to one it is as it was then");
        HandShakes x = new HandShakes();
        x.image(0);
        for (int i = 0; i < 120; i++) {
            x.vouch(i % 19, i % 19 + 1, 5, 0, 0);
        }
        x.back(119, 3);
        x.rules(1, 1);
        x.come(7);
        for (int time = 2; time <= 29; time++) {
            due("time " + time, time % 2 == 0 ? x.come(0) : x.go(0), time);
        }
        due("the last time", x.come(3), 30);
        x.image(1);
        x.restore(0);
        due("vouch", x.vouch(0, 1, 0, 0, 0), 0);
        for (int time = 1; time <= 30; time++) {
            due("time " + time, time % 2 == 1 ? x.come(5) : x.go(5), time);
        }
        x.restore(1);
        due("vouch 120", x.vouch(0, 1, 0, 0, 0), -5);
        due("come(5) as the 31st", x.come(5), -5);
        due("back(119)", x.back(119, 3), -4);
        due("back(118)", x.back(118, 3), 0);
        due("sure(0, 6)", x.sure(0, 6, 0, 0), 6);
        due("sure(0, 7)", x.sure(0, 7, 0, 0), -1);
        due("group(1, 0)", x.group(1, 0), 128);
        due("group(29, 0)", x.group(29, 0), 128);
        due("group(29, 1)", x.group(29, 1), 129);
        due("group(30, 0)", x.group(30, 0), 128 + 8);
        due("group(30, 1)", x.group(30, 1), 128 + 8 + 1);
    }
}
