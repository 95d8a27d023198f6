import java.math.BigInteger;
import java.util.ArrayList;
import java.util.Arrays;
import java.util.Collections;
import java.util.Comparator;
import java.util.HashMap;
import java.util.HashSet;
import java.util.LinkedHashMap;
import java.util.LinkedHashSet;
import java.util.List;
import java.util.Map;
import java.util.Set;
import java.util.TreeMap;

/**
 * The document once more, written as slowly and as literally as can be, with the Java library.
 * It shares no code and no shape with HandShakes: what both answer alike is likely what the document says.
 */
final class Oracle {
    private Oracle() {
    }

    // ---- I. TERMS ----

    /** An ATOM has a name and a rank in the order of a RAISE's ATOMS; all others have parts. */
    static final class Term {
        final String kind;
        final List<Term> parts;
        final List<Term> by;
        final int rank;
        final String key;

        private Term(String kind, List<Term> parts, List<Term> by, int rank) {
            this.kind = kind;
            this.parts = parts;
            this.by = by;
            this.rank = rank;
            StringBuilder text = new StringBuilder(kind);
            for (Term part : parts) {
                text.append('(').append(part.key).append(')');
            }
            for (Term atom : by) {
                text.append('^').append(atom.key);
            }
            key = text.toString();
        }

        static Term atom(String name, int rank) {
            return new Term("@" + name, List.of(), List.of(), rank);
        }

        static Term of(String kind, Term... parts) {
            return new Term(kind, List.of(parts), List.of(), 0);
        }

        static Term raise(Term base, List<Term> atoms) {
            List<Term> all = new ArrayList<>(atoms);
            Term under = base;
            if (base.kind.equals("raise")) {
                all.addAll(base.by);
                under = base.parts.get(0);
            }
            all.sort(Comparator.comparingInt((Term t) -> t.rank));
            return new Term("raise", List.of(under), all, 0);
        }

        int size() {
            int size = 1 + by.size();
            for (Term part : parts) {
                size += part.size();
            }
            return size;
        }

        @Override
        public boolean equals(Object other) {
            return other instanceof Term t && t.key.equals(key);
        }

        @Override
        public int hashCode() {
            return key.hashCode();
        }

        void listParts(Set<Term> into) {
            into.add(this);
            for (Term part : parts) {
                part.listParts(into);
            }
            into.addAll(by);
        }
    }

    static final Term G = Term.atom("g", 900);

    static Term name(int n) {
        return Term.atom("name" + n, 800 + n);
    }

    static Term key(int n) {
        return Term.atom("key" + n, n);
    }

    static Term lot(int end, int n) {
        return Term.atom("lot" + end + "." + n, 100 + 10 * end + n);
    }

    static Term third(int n) {
        return Term.atom("third" + n, 500 + n);
    }

    static Set<Term> got(Iterable<Term> had) {
        Set<Term> got = new LinkedHashSet<>();
        for (Term term : had) {
            got.add(term);
        }
        while (true) {
            Set<Term> more = new LinkedHashSet<>(got);
            for (Term term : got) {
                if (term.kind.equals("pair")) {
                    more.addAll(term.parts);
                }
                if (term.kind.equals("seal") && canMake(got, term.parts.get(1))) {
                    more.add(term.parts.get(0));
                }
            }
            if (more.size() == got.size()) {
                return got;
            }
            got = more;
        }
    }

    static boolean canMake(Set<Term> got, Term term) {
        if (got.contains(term)) {
            return true;
        }
        switch (term.kind) {
            case "pair":
            case "seal":
            case "sum":
                return term.parts.stream().allMatch(part -> canMake(got, part));
            case "raise":
                break;
            default:
                return false;
        }
        // Take one ATOM that can be MADE away: what is left must be made, too.
        for (int i = 0; i < term.by.size(); i++) {
            if (got.contains(term.by.get(i))) {
                List<Term> less = new ArrayList<>(term.by);
                less.remove(i);
                Term rest = less.isEmpty() ? term.parts.get(0) : Term.raise(term.parts.get(0), less);
                if (canMake(got, rest)) {
                    return true;
                }
            }
        }
        return false;
    }

    // ---- II. TEXTS ----

    static final class Fault extends RuntimeException {
        private static final long serialVersionUID = 1L;
        final int place;

        Fault(int place) {
            super("fault at " + place);
            this.place = place;
        }
    }

    /** A word of a TEXT with what is in its brackets. */
    static final class Node {
        final String word;
        int number = -1;
        final List<Node> inside = new ArrayList<>();

        Node(String word) {
            this.word = word;
        }

        int words() {
            return 1 + inside.stream().mapToInt(Node::words).sum();
        }

        void collect(String wanted, Set<Integer> into) {
            if (word.equals(wanted)) {
                into.add(number);
            }
            inside.forEach(node -> node.collect(wanted, into));
        }
    }

    static final class Line {
        final int column;
        final String act;
        Node term;
        Set<Integer> free = new HashSet<>();
        Set<Integer> ahead = new HashSet<>();

        Line(int column, String act) {
            this.column = column;
            this.act = act;
        }
    }

    static final class Parser {
        final String text;
        final List<String> tokens = new ArrayList<>();
        final List<Integer> places = new ArrayList<>();
        int next = 0;
        int words = 0;
        Line line;
        String where;

        Parser(String text) {
            this.text = text;
            int i = 0;
            while (i < text.length()) {
                char c = text.charAt(i);
                int from = i;
                if (c == ' ') {
                    i++;
                    continue;
                }
                if (c >= 'a' && c <= 'z') {
                    while (i < text.length() && text.charAt(i) >= 'a' && text.charAt(i) <= 'z') {
                        i++;
                    }
                } else if (c >= '0' && c <= '9') {
                    while (i < text.length() && text.charAt(i) >= '0' && text.charAt(i) <= '9') {
                        i++;
                    }
                } else {
                    i++;
                }
                tokens.add(text.substring(from, i));
                places.add(from);
            }
            tokens.add("");
            places.add(text.length());
        }

        String here() {
            return tokens.get(next);
        }

        int place() {
            return places.get(next);
        }

        Fault fault() {
            return new Fault(place());
        }

        void expect(String token) {
            if (!here().equals(token)) {
                throw fault();
            }
            next++;
        }

        int number(int most) {
            if (!here().matches("[0-9]+") || new BigInteger(here()).compareTo(BigInteger.valueOf(most)) > 0) {
                throw fault();
            }
            return new BigInteger(tokens.get(next++)).intValue();
        }

        Node term(int open) {
            List<String> known = List.of("g", "name", "key", "lot", "x", "hole", "pair", "seal", "sum", "raise");
            if (!known.contains(here()) || words == 20) {
                throw fault();
            }
            words++;
            int place = place();
            Node node = new Node(tokens.get(next++));
            switch (node.word) {
                case "g":
                    break;
                case "name":
                case "key":
                    node.number = number(1);
                    break;
                case "lot":
                    node.number = number(2);
                    break;
                case "x":
                    if (where.equals("have")) {
                        throw new Fault(place);
                    }
                    node.number = number(3);
                    checkX(node.number, place);
                    break;
                case "hole":
                    if (List.of("have", "shelf", "take").contains(where)) {
                        throw new Fault(place);
                    }
                    node.number = number(2);
                    break;
                default:
                    brackets(node, open);
            }
            return node;
        }

        private void checkX(int number, int place) {
            if (where.equals("shelf") || line.ahead.contains(number)) {
                return;
            }
            line.free.add(number);
            if (!where.equals("take") || line.free.size() > 2) {
                throw new Fault(place);
            }
        }

        private void brackets(Node node, int open) {
            if (open == 6) {
                throw fault();
            }
            expect("(");
            node.inside.add(term(open + 1));
            if (node.word.equals("pair") || node.word.equals("seal")) {
                expect(",");
                node.inside.add(term(open + 1));
            }
            if (node.word.equals("raise")) {
                do {
                    expect(",");
                    if (!here().equals("lot") && !here().equals("key") || words == 20) {
                        throw fault();
                    }
                    words++;
                    Node by = new Node(tokens.get(next++));
                    by.number = number(by.word.equals("lot") ? 2 : 1);
                    node.inside.add(by);
                } while (here().equals(","));
            }
            expect(")");
        }
    }

    static Node readAlone(String text, String where) {
        Parser parser = new Parser(text);
        parser.where = where;
        parser.line = new Line(0, where);
        Node node = parser.term(0);
        parser.expect("");
        return node;
    }

    static List<Line> readProtocol(String text) {
        Parser parser = new Parser(text);
        List<Line> lines = new ArrayList<>();
        List<Set<Integer>> taken = List.of(new HashSet<>(), new HashSet<>());
        Set<Integer> sure = new HashSet<>();
        while (true) {
            if (lines.size() == 12 || !parser.here().equals("a") && !parser.here().equals("b")) {
                throw parser.fault();
            }
            int column = parser.tokens.get(parser.next++).equals("a") ? 0 : 1;
            String act = parser.here();
            if (!List.of("send", "take", "show", "sure").contains(act) || act.equals("sure") && !sure.add(column)) {
                throw parser.fault();
            }
            parser.next++;
            Line line = new Line(column, act);
            line.ahead.addAll(taken.get(column));
            parser.line = line;
            parser.where = act;
            parser.words = 0;
            line.term = parser.term(0);
            if (act.equals("take")) {
                line.term.collect("x", taken.get(column));
            }
            lines.add(line);
            if (parser.here().isEmpty()) {
                return lines;
            }
            parser.expect(";");
        }
    }

    static Set<Integer> holes(List<Line> lines) {
        Set<Integer> holes = new HashSet<>();
        lines.forEach(line -> line.term.collect("hole", holes));
        return holes;
    }

    /** The TERM of a node for an END; null for what is above all sizes (it would grow without end). */
    static Term termOf(Node node, int end, Map<Integer, Term> took, Node[] filling) {
        switch (node.word) {
            case "g": return G;
            case "name": return name(node.number);
            case "key": return key(node.number);
            case "lot": return lot(end, node.number);
            case "x": return took.get(node.number);
            case "hole": return termOf(filling[node.number], end, took, filling);
            case "raise": {
                Term base = termOf(node.inside.get(0), end, took, filling);
                List<Term> by = new ArrayList<>();
                for (Node one : node.inside.subList(1, node.inside.size())) {
                    by.add(one.word.equals("lot") ? lot(end, one.number) : key(one.number));
                }
                return Term.raise(base, by);
            }
            default: {
                Term[] parts = new Term[node.inside.size()];
                for (int i = 0; i < parts.length; i++) {
                    parts[i] = termOf(node.inside.get(i), end, took, filling);
                }
                return Term.of(node.word, parts);
            }
        }
    }

    // ---- III. COURSES ----

    static final class World implements Cloneable {
        List<Line> lines;
        Node[] filling;
        int rooms;
        int careless;
        int[] at = new int[4];
        boolean[] stopped = new boolean[4];
        List<TreeMap<Integer, Term>> took = new ArrayList<>();
        List<List<Term>> sent = new ArrayList<>();
        Term[] sure = new Term[4];
        int unlike;

        World(List<Line> lines, Node[] filling, int rooms, int careless) {
            this.lines = lines;
            this.filling = filling;
            this.rooms = rooms;
            this.careless = careless;
            for (int i = 0; i < 4; i++) {
                took.add(new TreeMap<>());
                sent.add(new ArrayList<>());
            }
        }

        World copy() {
            World copy = new World(lines, filling, rooms, careless);
            copy.at = at.clone();
            copy.stopped = stopped.clone();
            copy.sure = sure.clone();
            copy.unlike = unlike;
            for (int i = 0; i < 4; i++) {
                copy.took.get(i).putAll(took.get(i));
                copy.sent.get(i).addAll(sent.get(i));
            }
            return copy;
        }

        Line here(int end) {
            int k = 0;
            for (Line line : lines) {
                if (line.column == end % 2 && k++ == at[end]) {
                    return stopped[end] ? null : line;
                }
            }
            return null;
        }

        Term term(int end) {
            return termOf(here(end).term, end, took.get(end), filling);
        }

        boolean isAt(int end, String act) {
            return here(end) != null && here(end).act.equals(act);
        }

        /** Of one ROOM: any END that can move does, till none can. */
        void goOn(int room) {
            boolean moved = true;
            while (moved) {
                moved = false;
                for (int end = 2 * room; end < 2 * room + 2; end++) {
                    if (here(end) == null || isAt(end, "take")) {
                        continue;
                    }
                    Term term = term(end);
                    if (term.size() > 30) {
                        stopped[end] = true;
                        moved = true;
                    } else if (isAt(end, "send")) {
                        sent.get(end).add(term);
                        at[end]++;
                        moved = true;
                    } else if (isAt(end, "sure")) {
                        sure[end] = term;
                        at[end]++;
                        moved = true;
                    }
                }
                int a = 2 * room;
                int b = a + 1;
                if (!moved && isAt(a, "show") && isAt(b, "show")) {
                    moved = true;
                    boolean same = term(a).equals(term(b));
                    if (!same && unlike == careless) {
                        stopped[a] = true;
                        stopped[b] = true;
                    } else {
                        unlike += same ? 0 : 1;
                        at[a]++;
                        at[b]++;
                    }
                }
            }
        }

        String state() {
            StringBuilder text = new StringBuilder();
            text.append(Arrays.toString(at)).append(Arrays.toString(stopped)).append(unlike);
            for (TreeMap<Integer, Term> one : took) {
                text.append('|');
                one.forEach((x, term) -> text.append(x).append('=').append(term.key).append(';'));
            }
            return text.toString();
        }

        Set<Term> heard() {
            List<Term> had = new ArrayList<>(List.of(G, name(0), name(1), third(0), third(1)));
            sent.forEach(had::addAll);
            return got(had);
        }

        List<Term> candidates() {
            Set<Term> all = new LinkedHashSet<>();
            all.add(third(0));
            all.add(third(1));
            all.add(Term.raise(G, List.of(third(0))));
            all.add(Term.raise(G, List.of(third(1))));
            all.add(name(0));
            all.add(name(1));
            for (List<Term> one : sent) {
                for (Term term : one) {
                    term.listParts(all);
                }
            }
            List<Term> list = new ArrayList<>(all);
            return list.subList(0, Math.min(24, list.size()));
        }

        /** -2 not CHEATED, -1 unlike ones, else the END. */
        int cheat() {
            Set<Term> heard = heard();
            for (int end = 0; end < 2 * rooms; end++) {
                if (sure[end] != null && canMake(heard, sure[end])) {
                    return end;
                }
            }
            for (int room = 0; room < rooms; room++) {
                Term a = sure[2 * room];
                Term b = sure[2 * room + 1];
                if (a != null && b != null && !a.equals(b)) {
                    return -1;
                }
            }
            return -2;
        }
    }

    static final class Proof {
        int outcome;
        int states;
        int cheat = -1;
        List<int[]> course = new ArrayList<>();
        World last;
    }

    private record Reached(List<int[]> row, World world) {
    }

    private static int compareRows(List<int[]> one, List<int[]> other) {
        for (int i = 0; i < one.size(); i++) {
            int order = Arrays.compare(one.get(i), other.get(i));
            if (order != 0) {
                return order;
            }
        }
        return 0;
    }

    static Proof prove(List<Line> lines, Node[] filling, int rooms, int careless) {
        World first = new World(lines, filling, rooms, careless);
        for (int room = 0; room < rooms; room++) {
            first.goOn(room);
        }
        Set<String> seen = new HashSet<>();
        List<Reached> level = List.of(new Reached(List.of(), first));
        Proof proof = new Proof();
        while (!level.isEmpty()) {
            List<Reached> fresh = new ArrayList<>();
            for (Reached one : level) {
                if (!seen.add(one.world.state())) {
                    continue;
                }
                if (seen.size() > 400) {
                    proof.outcome = 2;
                    return proof;
                }
                fresh.add(one);
                proof.states++;
                int cheat = one.world.cheat();
                if (cheat != -2) {
                    proof.outcome = 1;
                    proof.cheat = cheat;
                    proof.course = one.row;
                    proof.last = one.world;
                    return proof;
                }
            }
            List<Reached> further = new ArrayList<>();
            Map<String, Reached> best = new LinkedHashMap<>();
            for (Reached one : fresh) {
                addTakes(one, further);
            }
            // One row a STATE is enough, the first: the list would grow too long else.
            further.sort((r, s) -> compareRows(r.row, s.row));
            for (Reached one : further) {
                best.putIfAbsent(one.world.state(), one);
            }
            level = new ArrayList<>(best.values());
        }
        return proof;
    }

    private static void addTakes(Reached from, List<Reached> into) {
        World world = from.world;
        Set<Term> heard = world.heard();
        List<Term> candidates = world.candidates();
        for (int end = 0; end < 2 * world.rooms; end++) {
            if (!world.isAt(end, "take")) {
                continue;
            }
            List<Integer> free = new ArrayList<>(world.here(end).free);
            Collections.sort(free);
            int firsts = free.isEmpty() ? 1 : candidates.size();
            int seconds = free.size() < 2 ? 1 : candidates.size();
            for (int i = 0; i < firsts; i++) {
                for (int k = 0; k < seconds; k++) {
                    World next = world.copy();
                    if (!free.isEmpty()) {
                        next.took.get(end).put(free.get(0), candidates.get(i));
                    }
                    if (free.size() == 2) {
                        next.took.get(end).put(free.get(1), candidates.get(k));
                    }
                    Term taken = next.term(end);
                    if (taken.size() > 30 || !canMake(heard, taken)) {
                        continue;
                    }
                    next.at[end]++;
                    next.goOn(end / 2);
                    List<int[]> row = new ArrayList<>(from.row);
                    row.add(new int[] {end, free.isEmpty() ? -1 : i, free.size() < 2 ? -1 : k});
                    into.add(new Reached(row, next));
                }
            }
        }
    }

    static int weakest(List<Line> lines) {
        for (int careless = 0; careless < 4; careless++) {
            if (prove(lines, null, 1, careless).outcome != 0) {
                return careless;
            }
        }
        return 4;
    }

    /** WORDS, then what is in each hole; null without. */
    static int[] fill(List<Line> lines, List<Node> shelf) {
        Set<Integer> holes = holes(lines);
        int[] best = null;
        int rows = shelf.size() * shelf.size() * shelf.size();
        for (int row = 0; row < rows && !holes.isEmpty(); row++) {
            int[] all = {row / shelf.size() / shelf.size(), row / shelf.size() % shelf.size(), row % shelf.size()};
            int[] answer = {0, -1, -1, -1};
            Node[] filling = new Node[3];
            boolean unused = false;
            for (int hole = 0; hole < 3; hole++) {
                if (holes.contains(hole)) {
                    filling[hole] = shelf.get(all[hole]);
                    answer[0] += filling[hole].words();
                    answer[hole + 1] = all[hole];
                } else if (all[hole] != 0) {
                    unused = true;
                }
            }
            if (unused || best != null && best[0] <= answer[0] || !bound(lines, filling)) {
                continue;
            }
            if (prove(lines, filling, 1, 0).outcome == 0) {
                best = answer;
            }
        }
        return best;
    }

    private static boolean bound(List<Line> lines, Node[] filling) {
        for (Line line : lines) {
            Set<Integer> holes = new HashSet<>();
            line.term.collect("hole", holes);
            for (int hole : holes) {
                Set<Integer> xs = new HashSet<>();
                filling[hole].collect("x", xs);
                if (!line.ahead.containsAll(xs)) {
                    return false;
                }
            }
        }
        return true;
    }

    // ---- RUNS ----

    private static final class Road {
        final World world;
        final List<List<Term>> lies = List.of(new ArrayList<>(), new ArrayList<>());
        BigInteger weight = BigInteger.ONE;
        int events;

        Road(World world) {
            this.world = world;
        }

        Road fork(int hundredths) {
            Road road = new Road(world.copy());
            road.lies.get(0).addAll(lies.get(0));
            road.lies.get(1).addAll(lies.get(1));
            road.weight = weight.multiply(BigInteger.valueOf(hundredths));
            road.events = events + 1;
            return road;
        }
    }

    /** Upper and lower number of each kind, in a row; null, if a RUN has more than 8 EVENTS. */
    static BigInteger[] share(List<Line> lines, int lost, int misread) {
        BigInteger[] sums = new BigInteger[4];
        Arrays.fill(sums, BigInteger.ZERO);
        if (!run(new Road(new World(lines, null, 1, 0)), lost, misread, sums)) {
            return null;
        }
        BigInteger[] answer = new BigInteger[8];
        BigInteger whole = BigInteger.valueOf(100).pow(8);
        for (int kind = 0; kind < 4; kind++) {
            BigInteger common = sums[kind].gcd(whole);
            answer[2 * kind] = sums[kind].divide(common);
            answer[2 * kind + 1] = whole.divide(common);
        }
        return answer;
    }

    private static boolean run(Road road, int lost, int misread, BigInteger[] sums) {
        World world = road.world;
        if (road.events > 8) {
            return false;
        }
        for (int end = 0; end < 2; end++) {
            Line line = world.here(end);
            if (line == null) {
                continue;
            }
            if (line.act.equals("take")) {
                List<Term> lies = road.lies.get(end);
                if (lies.isEmpty()) {
                    continue;
                }
                Set<Integer> free = new HashSet<>(line.free);
                if (fits(line.term, lies.remove(0), end, world.took.get(end), free)) {
                    world.at[end]++;
                } else {
                    world.stopped[end] = true;
                }
                return run(road, lost, misread, sums);
            }
            Term term = world.term(end);
            if (term.size() > 30) {
                world.stopped[end] = true;
                return run(road, lost, misread, sums);
            }
            if (line.act.equals("sure")) {
                world.sure[end] = term;
                world.at[end]++;
                return run(road, lost, misread, sums);
            }
            if (line.act.equals("send")) {
                world.at[end]++;
                Road gone = road.fork(lost);
                Road comes = road.fork(100 - lost);
                comes.lies.get(1 - end).add(term);
                return run(gone, lost, misread, sums) && run(comes, lost, misread, sums);
            }
        }
        if (world.isAt(0, "show") && world.isAt(1, "show")) {
            Road wrong = road.fork(misread);
            Road right = road.fork(100 - misread);
            wrong.world.stopped[0] = true;
            wrong.world.stopped[1] = true;
            if (world.term(0).equals(world.term(1))) {
                right.world.at[0]++;
                right.world.at[1]++;
            } else {
                right.world.stopped[0] = true;
                right.world.stopped[1] = true;
            }
            return run(wrong, lost, misread, sums) && run(right, lost, misread, sums);
        }
        Term a = world.sure[0];
        Term b = world.sure[1];
        int kind = a != null && b != null ? a.equals(b) ? 0 : 1 : a != null || b != null ? 2 : 3;
        sums[kind] = sums[kind].add(road.weight.multiply(BigInteger.valueOf(100).pow(8 - road.events)));
        return true;
    }

    private static boolean fits(Node node, Term term, int end, Map<Integer, Term> took, Set<Integer> unput) {
        if (node.word.equals("x") && unput.remove(node.number)) {
            took.put(node.number, term);
            return true;
        }
        if (node.word.equals("pair") || node.word.equals("seal")) {
            return term.kind.equals(node.word)
                    && fits(node.inside.get(0), term.parts.get(0), end, took, unput)
                    && fits(node.inside.get(1), term.parts.get(1), end, took, unput);
        }
        Set<Integer> xs = new HashSet<>();
        node.collect("x", xs);
        return Collections.disjoint(xs, unput) && termOf(node, end, took, null).equals(term);
    }

    // ---- V. ----

    static final class Vouched {
        final int from;
        final int to;
        final int reach;
        final int day;
        final int known;
        int back = 1000;

        Vouched(int from, int to, int reach, int day, int known) {
            this.from = from;
            this.to = to;
            this.reach = reach;
            this.day = day;
            this.known = known;
        }
    }

    /** All rows, one by one, the shortest first. */
    static int steps(List<Vouched> all, int one, int other, int day, int known) {
        if (one == other) {
            return 0;
        }
        for (int length = 1; length <= 6; length++) {
            if (rowOf(all, one, other, day, known, length)) {
                return length;
            }
        }
        return -1;
    }

    private static boolean rowOf(List<Vouched> all, int one, int other, int day, int known, int length) {
        for (Vouched v : all) {
            boolean stands = v.day <= day && v.known <= known && day < v.back;
            if (v.from == one && stands && v.reach >= length - 1) {
                if (length == 1 ? v.to == other : rowOf(all, v.to, other, day, known, length - 1)) {
                    return true;
                }
            }
        }
        return false;
    }

    static int hangs(List<Vouched> all, int number, int day, int known) {
        List<Vouched> without = new ArrayList<>(all);
        without.remove(number);
        int pairs = 0;
        for (int one = 0; one < 20; one++) {
            for (int other = 0; other < 20; other++) {
                if (steps(all, one, other, day, known) >= 0 && steps(without, one, other, day, known) < 0) {
                    pairs++;
                }
            }
        }
        return pairs;
    }

    /** The GROUP by TERMS: secrets are ATOMS, what is sent are SEALS. */
    static final class Group {
        int time;
        int come;
        int go;
        final List<Set<Integer>> in = new ArrayList<>(List.of(Set.of()));
        final List<Term> sent = new ArrayList<>();

        private static Term own(int one) {
            return Term.atom("own" + one, 0);
        }

        private static Term secret(int time) {
            return Term.atom("secret" + time, 0);
        }

        void change(int one, boolean comes) {
            Set<Integer> now = new HashSet<>(in.get(time));
            if (comes) {
                now.add(one);
            } else {
                now.remove(one);
            }
            in.add(now);
            time++;
            if ((comes ? come : go) == 0) {
                now.forEach(who -> sent.add(Term.of("seal", secret(time), own(who))));
                return;
            }
            if (time > 1) {
                sent.add(Term.of("seal", secret(time), secret(time - 1)));
            }
            if (comes) {
                sent.add(Term.of("seal", secret(time), own(one)));
            }
        }

        int isIn(int when) {
            return in.get(when).stream().mapToInt(who -> 1 << who).sum();
        }

        int canMakeSecret(int when) {
            int bits = 0;
            for (int who = 0; who < 8; who++) {
                List<Term> had = new ArrayList<>(sent);
                had.add(own(who));
                if (canMake(got(had), secret(when))) {
                    bits |= 1 << who;
                }
            }
            return when == 0 ? 0 : bits;
        }
    }
}
