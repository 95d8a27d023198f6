import java.math.BigInteger;
import java.util.ArrayList;
import java.util.HashSet;
import java.util.List;
import java.util.Random;
import java.util.Set;

/** Random TEXTS and calls, answered by HandShakes and by the Oracle. Arguments: how many rounds, a seed. */
public final class OracleTest {
    private final Random random;
    private int wrong = 0;
    private final int[] outcomes = new int[4];
    private int fills;
    private int faults;
    private int shares;

    private OracleTest(long seed) {
        random = new Random(seed);
    }

    public static void main(String[] args) {
        int rounds = args.length > 0 ? Integer.parseInt(args[0]) : 250;
        long seed = args.length > 1 ? Long.parseLong(args[1]) : 7;
        OracleTest test = new OracleTest(seed);
        for (int i = 0; i < rounds && test.wrong < 20; i++) {
            test.round();
        }
        System.out.println("proved " + test.outcomes[0] + ", cheated " + test.outcomes[1] + ", spent "
                + test.outcomes[2] + ", filled " + test.fills + ", faults " + test.faults + ", shares " + test.shares);
        System.out.println(test.wrong == 0 ? "the oracle agrees" : test.wrong + " answers differ");
        if (test.wrong != 0) {
            System.exit(1);
        }
    }

    private void round() {
        reading();
        making();
        courses();
        holes();
        life();
        group();
    }

    private void due(String what, long got, long want) {
        if (got != want) {
            wrong++;
            System.out.println(what + " answered " + got + ", due is " + want);
        }
    }

    private int pick(int below) {
        return random.nextInt(below);
    }

    private String oneOf(String... texts) {
        return texts[pick(texts.length)];
    }

    // ---- TEXTS ----

    private String lotOrKey() {
        return pick(4) == 0 ? "key " + pick(2) : "lot " + pick(3);
    }

    /** A TERM of a depth, with these x and holes if asked. */
    private String term(int depth, List<Integer> xs, boolean holes) {
        int kind = pick(depth > 0 ? 11 : 6);
        switch (kind) {
            case 0: return pick(3) > 0 ? "g" : "name " + pick(2);
            case 1: return "key " + pick(2);
            case 2: return "lot " + pick(3);
            case 3:
            case 4: return xs.isEmpty() ? "lot 0" : "x " + xs.get(pick(xs.size()));
            case 5: return holes ? "hole " + pick(3) : "name " + pick(2);
            case 6: return "pair(" + term(depth - 1, xs, holes) + "," + term(depth - 1, xs, holes) + ")";
            case 7: return "seal(" + term(depth - 1, xs, holes) + "," + term(depth - 1, xs, holes) + ")";
            case 8: return "sum(" + term(depth - 1, xs, holes) + ")";
            default: {
                StringBuilder text = new StringBuilder("raise(");
                text.append(pick(2) == 0 ? "g" : term(depth - 1, xs, holes));
                for (int i = pick(3); i >= 0; i--) {
                    text.append(',').append(lotOrKey());
                }
                return text.append(')').toString();
            }
        }
    }

    private String takeTerm(List<Integer> xs) {
        int a = pick(4);
        int b = pick(4);
        switch (pick(9)) {
            case 0:
            case 1:
            case 2: return "x " + a;
            case 3: return "pair(x " + a + "," + (pick(2) == 0 ? "x " + b : term(1, xs, false)) + ")";
            case 4: return "seal(" + oneOf("x " + a, "pair(x " + a + ",name 0)") + "," + oneOf("key 0", "key 1", "x " + b) + ")";
            case 5: return "sum(" + oneOf("x " + a, "pair(x " + a + ",lot 0)") + ")";
            case 6: return "raise(x " + a + "," + lotOrKey() + ")";
            case 7: return "pair(x " + a + ",sum(" + oneOf("x " + a, "pair(x " + a + ",x " + b + ")") + "))";
            default: return term(2, xs, false);
        }
    }

    private String protocol(boolean holes) {
        StringBuilder text = new StringBuilder();
        int lines = 2 + pick(8);
        List<Set<Integer>> taken = List.of(new HashSet<>(), new HashSet<>());
        boolean[] sure = new boolean[2];
        for (int i = 0; i < lines; i++) {
            int column = pick(2);
            List<Integer> xs = new ArrayList<>(taken.get(column));
            int act = pick(11);
            String line;
            if (act < 4) {
                line = "send " + term(2, xs, holes);
            } else if (act < 7) {
                String term = takeTerm(xs);
                for (int x = 0; x < 4; x++) {
                    if (term.contains("x " + x)) {
                        taken.get(column).add(x);
                    }
                }
                line = "take " + term;
            } else if (act < 9 || sure[column]) {
                line = "show " + term(pick(2), xs, holes);
            } else {
                sure[column] = true;
                line = "sure " + term(2, xs, holes);
            }
            text.append(i == 0 ? "" : ";").append(column == 0 ? "a " : "b ").append(line);
        }
        return text.length() > 400 ? protocol(holes) : text.toString();
    }

    /** A PROTOCOL with a sense: one of these, with some of its words changed. */
    private String likely() {
        String text = oneOf(
                "a send raise(g,lot 0);a take x 0;a sure raise(x 0,lot 0);b take x 0;b send raise(g,lot 0);"
                        + "b sure raise(x 0,lot 0)",
                "a send raise(g,lot 0);a take x 0;a show sum(pair(raise(g,lot 0),x 0));a sure raise(x 0,lot 0);"
                        + "b take x 0;b send raise(g,lot 0);b show sum(pair(x 0,raise(g,lot 0)));b sure raise(x 0,lot 0)",
                "a send sum(raise(g,lot 0));b take x 1;b send raise(g,lot 0);a take x 0;a send raise(g,lot 0);"
                        + "b take x 0;a sure raise(x 0,lot 0);b sure raise(x 0,lot 0)",
                "a send seal(lot 0,key 0);b take seal(x 0,key 0);b send seal(pair(x 0,lot 0),key 0);"
                        + "a take seal(pair(lot 0,x 1),key 0);a sure x 1;b sure lot 0",
                "a send pair(name 0,lot 0);b take pair(x 0,x 1);b send seal(pair(x 1,lot 0),key 0);"
                        + "a take seal(pair(lot 0,x 0),key 0);a send x 0;b take lot 0;b sure seal(x 1,lot 0);a sure seal(lot 0,x 0)",
                "a send raise(g,lot 0);b take x 0;b send pair(raise(g,lot 0),sum(raise(x 0,lot 0)));"
                        + "a take pair(x 0,sum(raise(x 0,lot 0)));a send sum(pair(name 0,raise(x 0,lot 0)));"
                        + "b take sum(pair(name 0,raise(x 0,lot 0)));a sure raise(x 0,lot 0);b sure raise(x 0,lot 0)",
                "a send seal(raise(g,lot 0),key 1);b take seal(x 0,key 1);b send seal(raise(g,lot 0),key 1);"
                        + "a take seal(x 0,key 1);a sure raise(x 0,lot 0);b sure raise(x 0,lot 0)",
                "a take x 0;b take x 0;a show x 0;b show x 0;a sure x 0;b sure lot 1",
                "a take x 0;a send pair(pair(x 0,x 0),pair(x 0,lot 0));b take x 0;b send pair(pair(x 0,lot 1),pair(x 0,x 0));"
                        + "a take x 1;a show pair(x 1,x 1);b show pair(x 0,x 0);a sure lot 2;b sure lot 2;b send lot 2",
                "a take x 0;a send raise(x 0,lot 0,lot 1,key 0,lot 0,lot 2);b take x 0;b send raise(x 0,key 1,lot 0,lot 0,key 0,lot 1);"
                        + "a take x 1;a send raise(x 1,lot 2,lot 1,lot 0,lot 0,key 0);a sure raise(x 1,key 1);b sure raise(x 0,key 1)",
                "a send pair(lot 0,pair(lot 1,lot 0));a send pair(lot 0,pair(pair(lot 1,lot 2),pair(g,key 0)));"
                        + "b take pair(x 0,x 1);b send pair(pair(x 0,x 1),pair(x 1,pair(x 1,x 0)));"
                        + "a take pair(x 0,x 1);a send pair(pair(x 1,x 0),pair(x 0,pair(x 1,x 0)));b take x 2;b send pair(x 2,x 2);"
                        + "b sure pair(x 2,x 2);a take x 2;a sure pair(x 2,lot 0)",
                "a send pair(lot 0,pair(lot 1,seal(lot 2,key 0)));b take pair(x 0,pair(x 1,x 0));a take x 3;a send x 3;"
                        + "b send pair(x 0,x 1);b take seal(x 2,key 0);b sure x 2");
        String[][] changes = {{"key 0", "key 1"}, {"key 1", "x 0"}, {"lot 0", "lot 1"}, {"name 0", "lot 2"}, {"sum(", "seal(key 0,"},
            {"sure", "show"}, {"x 0", "x 1"}, {"x 1", "x 0"}, {"send", "show"}, {"lot 0)", "lot 0,key 0)"}, {"raise(g", "raise(name 0"}};
        for (int i = pick(4); i > 0; i--) {
            String[] change = changes[pick(changes.length)];
            int place = text.indexOf(change[0], pick(text.length()));
            if (place >= 0) {
                text = text.substring(0, place) + change[1] + text.substring(place + change[0].length());
            }
        }
        return text;
    }

    private String mutated(String text) {
        String[] bits = {";", "(", ")", ",", "a ", "b ", "send ", "take ", "show ", "sure ", "g", "x 1", "x 2", "x 4", "lot 3",
            "hole 1", "hole", " ", "  ", "key 0", "key 7", "raise(", "sum(", "pair(", "seal(", "0", "00", "7", "A", "z", "x", "\n",
            "sum(sum(sum(sum(g))))", ",key 0,lot 1,key 1,lot 2,key 0,lot 0", "a sure g;", "b send g;a send g;b send g;a send g;"};
        StringBuilder changed = new StringBuilder(text);
        for (int i = pick(3); i >= 0; i--) {
            int from = pick(changed.length() + 1);
            int to = Math.min(changed.length(), from + (pick(2) == 0 ? 0 : pick(6)));
            changed.replace(from, to, pick(4) == 0 ? "" : bits[pick(bits.length)]);
        }
        return changed.length() > 400 ? changed.substring(0, 400) : changed.toString();
    }

    private void reading() {
        HandShakes x = new HandShakes();
        for (int i = 0; i < 40; i++) {
            boolean whole = pick(2) == 0;
            String text = whole ? pick(2) == 0 ? likely() : protocol(pick(3) == 0) : term(3, List.of(0, 1), pick(4) == 0);
            if (pick(4) > 0) {
                text = mutated(text);
            }
            String where = whole ? "protocol" : oneOf("shelf", "have", "make");
            int want = -1;
            List<Oracle.Line> lines = List.of();
            try {
                if (whole) {
                    lines = Oracle.readProtocol(text);
                } else {
                    Oracle.readAlone(text, where.equals("shelf") ? where : "have");
                }
            } catch (Oracle.Fault fault) {
                want = fault.place;
                faults++;
            }
            Tape.put(x, text);
            int before = x.fault();
            int answer = whole ? x.protocol() : where.equals("shelf") ? x.shelf() : where.equals("have") ? x.have() : x.make();
            if (answer == -5) {
                due("fault() behind -5", x.fault(), before);
                due("TAPE behind -5", x.count(5), text.length());
                x = new HandShakes();
                continue;
            }
            due("fault() of '" + text + "' as " + where, x.fault(), want);
            due("whether '" + text + "' is refused as " + where, answer < 0 ? 1 : 0, want >= 0 ? 1 : 0);
            if (whole && want < 0) {
                due("lines(0) of " + text, x.lines(answer, 0), lines.size());
                due("lines(1) of " + text, x.lines(answer, 1), Oracle.holes(lines).size());
                due("lines(2) of " + text, x.lines(answer, 2), lines.stream().filter(line -> line.column == 0).count());
                due("lines(3) of " + text, x.lines(answer, 3), lines.stream().filter(line -> line.column == 1).count());
            }
        }
    }

    private Oracle.Term alone(String text) {
        return Oracle.termOf(Oracle.readAlone(text, "have"), 0, null, null);
    }

    private void making() {
        HandShakes x = new HandShakes();
        List<Oracle.Term> had = new ArrayList<>();
        StringBuilder story = new StringBuilder();
        Oracle.Term latest = null;
        for (int i = 0; i < 30; i++) {
            String text = term(i % 3 == 0 ? 3 : 1, List.of(), false);
            Oracle.Term term;
            try {
                term = alone(text);
            } catch (Oracle.Fault fault) {
                continue;
            }
            story.append(text).append(" | ");
            int what = pick(5);
            if (what < 2 && had.size() < 20) {
                had.add(term);
                due("have() " + text, Tape.have(x, text), had.size());
            } else if (what < 4) {
                due("make() " + text + " behind " + story, Tape.make(x, text), Oracle.canMake(Oracle.got(had), term) ? 1 : 0);
            } else {
                due("same() " + text + " behind " + story, Tape.same(x, text), latest == null ? -1 : latest.equals(term) ? 1 : 0);
            }
            latest = term;
        }
    }

    // ---- COURSES ----

    private List<Oracle.Line> readable(String text) {
        try {
            return Oracle.readProtocol(text);
        } catch (Oracle.Fault fault) {
            return null;
        }
    }

    /** ATOMS that raise, the last in order first, so that all ahead of them must move. */
    private String manyBys(int n) {
        String[] atoms = {",lot2", ",lot1", ",lot0", ",key1", ",key0"};
        StringBuilder text = new StringBuilder();
        for (int i = 0; i < n; i++) {
            text.append(atoms[i * 5 / n]);
        }
        return text.toString();
    }

    /** As long as a TEXT can be, with RAISES by many ATOMS: as many TERMS as can be. */
    private String heavy() {
        StringBuilder text = new StringBuilder();
        List<Set<Integer>> taken = List.of(new HashSet<>(), new HashSet<>());
        for (int i = 0; i < 12; i++) {
            int column = pick(2);
            int x = pick(4);
            String line;
            if (!taken.get(column).contains(x) || pick(4) == 0) {
                int y = pick(4);
                line = pick(3) == 0 ? "take pair(x" + x + ",x" + y + ")" : "take x" + x;
                taken.get(column).add(x);
                if (line.contains("pair")) {
                    taken.get(column).add(y);
                }
            } else {
                String term = "raise(x" + x + manyBys(1 + pick(18)) + ")";
                line = "send " + (pick(4) == 0 ? "pair(x" + x + ",lot" + pick(3) + ")" : term);
            }
            String more = (i == 0 ? "" : ";") + (column == 0 ? "a " : "b ") + line;
            if (text.length() + more.length() <= 380) {
                text.append(more);
            }
        }
        return text.append(pick(2) == 0 ? ";a sure lot 0" : ";b sure key 0").toString();
    }

    private void courses() {
        String text = pick(3) == 0 ? protocol(false) : pick(5) == 0 ? heavy() : likely();
        List<Oracle.Line> lines = readable(text);
        if (lines == null || text.length() > 400) {
            return;
        }
        HandShakes x = new HandShakes();
        due("protocol() " + text, Tape.protocol(x, text), 0);
        int rooms = pick(4) == 0 ? 2 : 1;
        int careless = pick(3) == 0 ? pick(4) : 0;
        compare(x, text, rooms, careless, Oracle.prove(lines, null, rooms, careless));
        if (pick(5) == 0) {
            due("weakest of " + text, x.weakest(0), Oracle.weakest(lines));
        }
        int lost = oneOfNumbers(0, 1, 50, 37, 100);
        int misread = oneOfNumbers(0, 10, 99, 100);
        BigInteger[] share = Oracle.share(lines, lost, misread);
        for (int kind = 0; kind < 4; kind++) {
            for (int what = 0; what < 2; what++) {
                due("share(" + lost + ", " + misread + ", " + kind + ", " + what + ") of " + text,
                        x.share(0, lost, misread, kind, what), share == null ? -1 : share[2 * kind + what].longValueExact());
            }
        }
        shares += share == null ? 0 : 1;
    }

    private int oneOfNumbers(int... numbers) {
        return numbers[pick(numbers.length)];
    }

    private void compare(HandShakes x, String text, int rooms, int careless, Oracle.Proof proof) {
        String name = " (" + rooms + " rooms, " + careless + " careless) of " + text;
        due("prove" + name, x.prove(0, rooms, careless), proof.outcome);
        outcomes[proof.outcome]++;
        due("found(0)" + name, x.found(0), proof.states);
        due("found(1)" + name, x.found(1), proof.course.size());
        due("found(2)" + name, x.found(2), proof.cheat);
        for (int i = 0; i <= proof.course.size(); i++) {
            for (int what = 0; what < 3; what++) {
                int want = i < proof.course.size() ? proof.course.get(i)[what] : -1;
                due("course(" + i + ", " + what + ")" + name, x.course(i, what), want);
            }
        }
        for (int end = 0; end < 4; end++) {
            boolean there = proof.outcome == 1 && end < 2 * rooms;
            int[] want = {-1, -1, -1, -1};
            if (there) {
                Oracle.Term sure = proof.last.sure[end];
                want = new int[] {proof.last.at[end], proof.last.stopped[end] ? 1 : 0, sure == null ? 0 : 1,
                    sure == null ? -1 : sure.size()};
            }
            for (int what = 0; what < 4; what++) {
                due("last(" + end / 2 + ", " + end % 2 + ", " + what + ")" + name, x.last(end / 2, end % 2, what), want[what]);
            }
        }
    }

    /** Holes in the place of some words of a likely PROTOCOL. */
    private String holed() {
        String text = likely();
        String[][] changes = {{"sure raise(x 0,lot 0)", "sure hole 0"}, {"sure lot 0", "sure hole 1"}, {"sure x 1", "sure hole 2"},
            {"show x 0", "show hole 1"}, {"send raise(g,lot 0)", "send hole 2"}, {"sum(pair(x 0,raise(g,lot 0)))", "hole 1"},
            {"send seal(lot 0,key 0)", "send seal(hole 0,key 0)"}, {"send raise(g", "send raise(hole 1"}, {"raise(x 0", "raise(hole 2"}};
        for (int i = 0; i < 4; i++) {
            String[] change = changes[pick(changes.length)];
            text = pick(2) == 0 ? text.replace(change[0], change[1]) : text.replaceFirst(java.util.regex.Pattern.quote(change[0]), change[1]);
        }
        return text;
    }

    private void holes() {
        String text = pick(4) == 0 ? protocol(true) : holed();
        List<Oracle.Line> lines = readable(text);
        if (lines == null || text.length() > 400 || lines.stream().mapToInt(line -> line.free.size()).max().orElse(0) > 1) {
            return;
        }
        HandShakes x = new HandShakes();
        due("protocol() " + text, Tape.protocol(x, text), 0);
        List<Oracle.Node> shelf = new ArrayList<>();
        StringBuilder story = new StringBuilder();
        int size = pick(4);
        while (shelf.size() < size) {
            String term = pick(8) == 0 ? "raise(" + oneOf("g", "x 0") + manyBys(1 + pick(17)) + ")"
                    : pick(2) == 0 ? term(1, List.of(0, 1), false) : oneOf("lot 1", "raise(x 0,lot 0)", "raise(g,lot 0)",
                    "lot 0", "x 0", "seal(lot 1,key 0)", "sum(pair(x 0,raise(g,lot 0)))", "pair(x 0,lot 0)");
            due("shelf() " + term, Tape.shelf(x, term), shelf.size());
            shelf.add(Oracle.readAlone(term, "shelf"));
            story.append(term).append(" | ");
        }
        int[] want = Oracle.fill(lines, shelf);
        due("fill of " + text + " with " + story, x.fill(0), want == null ? -1 : want[0]);
        for (int hole = 0; hole < 3; hole++) {
            due("filled(" + hole + ") of " + text + " with " + story, x.filled(hole), want == null ? -1 : want[hole + 1]);
        }
        fills += want == null ? 0 : 1;
    }

    // ---- V. ----

    private void life() {
        HandShakes x = new HandShakes();
        List<Oracle.Vouched> all = new ArrayList<>();
        int people = 3 + pick(8);
        for (int i = 0; i < 5 + pick(20); i++) {
            Oracle.Vouched v = new Oracle.Vouched(pick(people), pick(people), pick(6), pick(5), pick(5));
            if (v.from != v.to) {
                due("vouch", x.vouch(v.from, v.to, v.reach, v.day, v.known), all.size());
                all.add(v);
            }
            if (pick(4) == 0 && !all.isEmpty()) {
                int number = pick(all.size());
                int day = pick(5);
                boolean again = all.get(number).back < 1000;
                due("back", x.back(number, day), again ? -4 : 0);
                if (!again) {
                    all.get(number).back = day;
                }
            }
        }
        for (int i = 0; i < 30; i++) {
            int one = pick(people);
            int other = pick(people);
            int day = pick(6);
            int known = pick(6);
            due("sure", x.sure(one, other, day, known), Oracle.steps(all, one, other, day, known));
        }
        if (!all.isEmpty()) {
            int number = pick(all.size());
            due("hangs", x.hangs(number, 4, 4), Oracle.hangs(all, number, 4, 4));
            due("hangs", x.hangs(number, 2, 3), Oracle.hangs(all, number, 2, 3));
        }
    }

    private void group() {
        HandShakes x = new HandShakes();
        Oracle.Group group = new Oracle.Group();
        for (int i = 0; i < 25; i++) {
            if (pick(5) == 0) {
                group.come = pick(2);
                group.go = pick(2);
                due("rules", x.rules(group.come, group.go), 0);
            }
            int one = pick(4) == 0 ? 8 - 1 - pick(4) : pick(4);
            boolean in = (group.isIn(group.time) >> one & 1) != 0;
            group.change(one, !in);
            due("come or go", in ? x.go(one) : x.come(one), group.time);
        }
        for (int time = 0; time <= 25; time++) {
            due("group(" + time + ", 0)", x.group(time, 0), group.isIn(time));
            due("group(" + time + ", 1)", x.group(time, 1), group.canMakeSecret(time));
        }
    }
}
