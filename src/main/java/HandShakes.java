import java.util.Arrays;

/**
 * Protocols of two columns, the third one between them, and a life of vouchings and groups.
 * The document tells what each public method promises; words in capitals are its terms.
 */
public final class HandShakes {
    /** There is none. */
    public static final int NONE = -1;

    // What a call is REFUSED by.
    private static final int WRONG = -1;
    private static final int ABSENT = -2;
    private static final int CLASH = -3;
    private static final int AGAIN = -4;
    private static final int FULL = -5;
    private static final int UNREADABLE = -6;

    // The limits of the document.
    private static final int MOST_BYTES = 400;
    private static final int MOST_PROTOCOLS = 6;
    private static final int MOST_SHELF = 5;
    private static final int MOST_HAD = 20;
    private static final int MOST_LINES = 12;
    private static final int MOST_WORDS = 20;
    private static final int MOST_BRACKETS = 6;
    private static final int MOST_SIZE = 30;
    private static final int MOST_CANDIDATES = 24;
    private static final int MOST_STATES = 400;
    private static final int MOST_EVENTS = 8;
    private static final int MOST_CARELESS = 3;
    private static final int MOST_VOUCHED = 120;
    private static final int MOST_TIMES = 30;
    private static final int HOLES = 3;
    private static final int XS = 4;
    private static final int ENDS = 4;
    private static final int PEOPLE = 20;
    private static final int MEMBERS = 8;
    private static final int DAYS = 400;
    private static final int MOST_REACH = 5;
    private static final int IMAGES = 2;

    // Kinds of words in a TEXT; those from PAIR on are kinds of TERMS, too.
    private static final int G = 0;
    private static final int NAME = 1;
    private static final int KEY = 2;
    private static final int LOT = 3;
    private static final int X = 4;
    private static final int HOLE = 5;
    private static final int PAIR = 6;
    private static final int SEAL = 7;
    private static final int SUM = 8;
    private static final int RAISE = 9;
    private static final int ATOM = 10;

    // Where a TERM stands: in a LINE by its ACT, or alone.
    private static final int SEND = 0;
    private static final int TAKE = 1;
    private static final int SHOW = 2;
    private static final int SURE = 3;
    private static final int ON_SHELF = 4;
    private static final int IN_HAND = 5;

    // The ATOMS by number: those that can raise come first, in the order of a RAISE's parts.
    private static final int ATOM_LOT = 2;
    private static final int ATOM_THIRD = 14;
    private static final int ATOM_G = 16;
    private static final int ATOM_NAME = 17;
    private static final int ATOMS = 19;
    private static final int LOTS = 3;

    // How often a RAISE's words have each BY, all in one number: KEYS, then an END's LOTS.
    private static final int BY_BITS = 6;
    private static final int BY_MASK = 63;

    // What a search for COURSES ends with.
    private static final int PROVED = 0;
    private static final int CHEATED = 1;
    private static final int SPENT = 2;

    private final Reader reader = new Reader();
    private final Script[] protocols = new Script[MOST_PROTOCOLS];
    private int protocolCount;
    private final Script[] shelves = new Script[MOST_SHELF];
    private int shelfCount;
    private final Script[] hads = new Script[MOST_HAD];
    private int hadCount;
    private final Script read = new Script(1);
    private boolean anyRead;
    private int lastFault = NONE;
    private int lastStatus;
    private Prover prover;
    private Runs runs;
    private final Latest latest = new Latest();
    private final int[] latestFilled = {NONE, NONE, NONE};
    private final Life life = new Life();
    private final Life[] images = new Life[IMAGES];

    /** No PROTOCOLS, nobody VOUCHED, an empty GROUP. */
    public HandShakes() {
    }

    /** Twenty bytes come behind the TAPE. */
    public int feed(int a, int b, int c, int d, int e) {
        if (reader.length + 20 > MOST_BYTES) {
            return NONE;
        }
        reader.append(a);
        reader.append(b);
        reader.append(c);
        reader.append(d);
        reader.append(e);
        return reader.length;
    }

    /** The TAPE has its first n bytes alone. */
    public int end(int n) {
        if (n < 0 || n > reader.length) {
            return NONE;
        }
        reader.length = n;
        return n;
    }

    /** The TAPE becomes a PROTOCOL. */
    public int protocol() {
        if (protocolCount >= MOST_PROTOCOLS) {
            return refused(FULL);
        }
        boolean good = reader.readProtocol();
        afterReading();
        if (!good) {
            return refused(UNREADABLE);
        }
        Script script = new Script(MOST_LINES);
        script.copyFrom(reader.draft);
        protocols[protocolCount] = script;
        protocolCount++;
        return granted(protocolCount - 1);
    }

    /** The TAPE becomes a TERM of the SHELF. */
    public int shelf() {
        if (shelfCount >= MOST_SHELF) {
            return refused(FULL);
        }
        boolean good = reader.readAlone(ON_SHELF);
        afterReading();
        if (!good) {
            return refused(UNREADABLE);
        }
        Script script = new Script(1);
        script.copyFrom(reader.draft);
        shelves[shelfCount] = script;
        shelfCount++;
        return granted(shelfCount - 1);
    }

    /** FAULT of the latest call that read a TEXT. */
    public int fault() {
        return lastFault;
    }

    /** How many LINES, or unlike holes, a PROTOCOL has. */
    public int lines(int protocol, int what) {
        Script script = protocolAt(protocol);
        if (script == null) {
            return NONE;
        }
        switch (what) {
            case 0: return script.lines;
            case 1: return Integer.bitCount(script.allHoles());
            case 2: return script.columns[0];
            case 3: return script.columns[1];
            default: return NONE;
        }
    }

    /** The TAPE becomes a TERM that is HAD. */
    public int have() {
        if (hadCount >= MOST_HAD) {
            return refused(FULL);
        }
        boolean good = reader.readAlone(IN_HAND);
        afterReading();
        if (!good) {
            return refused(UNREADABLE);
        }
        if (hads[hadCount] == null) {
            hads[hadCount] = new Script(1);
        }
        Script script = hads[hadCount];
        if (script != null) {
            script.copyFrom(reader.draft);
        }
        hadCount++;
        keepRead();
        return granted(hadCount);
    }

    /** Whether the TAPE's TERM can be MADE from what is HAD. */
    public int make() {
        boolean good = reader.readAlone(IN_HAND);
        afterReading();
        if (!good) {
            return NONE;
        }
        keepRead();
        Prover bench = bench();
        bench.freshTerms();
        for (int i = 0; i < hadCount; i++) {
            bench.known.add(bench.play.alone(hads[i]));
        }
        bench.known.settle();
        return bench.known.can(bench.play.alone(read), 0) ? 1 : 0;
    }

    /** Whether the TAPE's TERM is the same as the latest that was read. */
    public int same() {
        boolean good = reader.readAlone(IN_HAND);
        afterReading();
        if (!good) {
            return NONE;
        }
        boolean compares = anyRead;
        Prover bench = bench();
        bench.freshTerms();
        int before = compares ? bench.play.alone(read) : NONE;
        keepRead();
        if (!compares) {
            return NONE;
        }
        return bench.play.alone(read) == before ? 1 : 0;
    }

    /** Nothing is HAD. */
    public int clear() {
        int were = hadCount;
        hadCount = 0;
        return were;
    }

    /** Whether a PROTOCOL holds in so many ROOMS with so many CARELESS. */
    public int prove(int protocol, int rooms, int careless) {
        Script script = wholeProtocolAt(protocol);
        if (script == null || rooms < 1 || rooms > 2 || careless < 0 || careless > MOST_CARELESS) {
            return NONE;
        }
        Prover bench = bench();
        int outcome = bench.search(script, rooms, careless);
        latest.keep(bench, outcome);
        return outcome;
    }

    /** How many CARELESS at least leave a PROTOCOL not PROVED. */
    public int weakest(int protocol) {
        Script script = wholeProtocolAt(protocol);
        if (script == null) {
            return NONE;
        }
        for (int careless = 0; careless <= MOST_CARELESS; careless++) {
            if (bench().search(script, 1, careless) != PROVED) {
                return careless;
            }
        }
        return MOST_CARELESS + 1;
    }

    /** SHARE of a PROTOCOL's RUNS of a kind. */
    public long share(int protocol, int lost, int misread, int kind, int what) {
        Script script = wholeProtocolAt(protocol);
        if (script == null || lost < 0 || lost > 100 || misread < 0 || misread > 100) {
            return NONE;
        }
        if (kind < 0 || kind > 3 || what < 0 || what > 1) {
            return NONE;
        }
        if (runs == null) {
            runs = new Runs(bench().play);
        }
        Runs all = runs;
        if (all == null || !all.weigh(script, lost, misread)) {
            return NONE;
        }
        long upper = all.weights[kind];
        long common = greatestCommon(upper, Runs.WHOLE);
        return (what == 0 ? upper : Runs.WHOLE) / Math.max(1L, common);
    }

    /** What the latest prove() found. */
    public int found(int what) {
        if (!latest.kept) {
            return NONE;
        }
        switch (what) {
            case 0: return latest.states;
            case 1: return latest.takes;
            case 2: return latest.cheat;
            default: return NONE;
        }
    }

    /** One TAKE of the latest's COURSE. */
    public int course(int i, int what) {
        if (!latest.cheated() || i < 0 || i >= latest.takes || i >= latest.ends.length) {
            return NONE;
        }
        switch (what) {
            case 0: return latest.ends[i];
            case 1: return latest.firsts[i];
            case 2: return latest.seconds[i];
            default: return NONE;
        }
    }

    /** An END in the last STATE of the latest's COURSE. */
    public int last(int room, int column, int what) {
        if (!latest.cheated() || room < 0 || room >= latest.rooms || column < 0 || column > 1) {
            return NONE;
        }
        int end = 2 * room + column;
        if (end >= ENDS) {
            return NONE;
        }
        switch (what) {
            case 0: return latest.at[end];
            case 1: return latest.stopped[end];
            case 2: return latest.size[end] == NONE ? 0 : 1;
            case 3: return latest.size[end];
            default: return NONE;
        }
    }

    /** FILLED by the least that holds. */
    public int fill(int protocol) {
        Script script = protocolAt(protocol);
        if (script == null || script.allHoles() == 0) {
            return NONE;
        }
        Prover bench = bench();
        int rows = MOST_SHELF * MOST_SHELF * MOST_SHELF;
        for (int words = 1; words <= HOLES * MOST_WORDS; words++) {
            for (int row = 0; row < rows; row++) {
                bench.play.choose(row);
                if (wordsOfRow(script, bench.play.choice) == words
                        && rowIsBound(script, bench.play.choice)
                        && bench.search(script, 1, 0) == PROVED) {
                    keepRow(script, bench.play.choice);
                    return words;
                }
            }
        }
        return NONE;
    }

    /** What of the SHELF is in a hole in the latest FILLED. */
    public int filled(int hole) {
        if (hole < 0 || hole >= HOLES) {
            return NONE;
        }
        return latestFilled[hole];
    }

    /** LUCK of a THIRD by short SUMS. */
    public long luck(int bits, int tries, int what) {
        if (bits < 1 || bits > 12 || tries < 0 || tries > 60 || bits * tries > 60 || what < 0 || what > 1) {
            return NONE;
        }
        long whole = 1L << (bits * tries);
        long misses = 1;
        for (int i = 0; i < tries; i++) {
            misses *= (1L << bits) - 1;
        }
        long upper = whole - misses;
        long common = greatestCommon(upper, whole);
        return (what == 0 ? upper : whole) / Math.max(1L, common);
    }

    /** One vouches for another one. */
    public int vouch(int from, int to, int reach, int day, int known) {
        if (!isPerson(from) || !isPerson(to) || reach < 0 || reach > MOST_REACH || !isDay(day) || !isDay(known)) {
            return refused(WRONG);
        }
        if (from == to) {
            return refused(CLASH);
        }
        if (life.vouched >= MOST_VOUCHED) {
            return refused(FULL);
        }
        return granted(life.addVouched(from, to, reach, day, known));
    }

    /** A VOUCHED one is taken BACK. */
    public int back(int vouch, int day) {
        if (!isDay(day)) {
            return refused(WRONG);
        }
        if (vouch < 0 || vouch >= life.vouched) {
            return refused(ABSENT);
        }
        if (life.backDay[vouch] != NONE) {
            return refused(AGAIN);
        }
        life.backDay[vouch] = day;
        return granted(0);
    }

    /** STEPS of one to another as known on a DAY. */
    public int sure(int one, int other, int day, int known) {
        if (!isPerson(one) || !isPerson(other) || !isDay(day) || !isDay(known)) {
            return NONE;
        }
        return life.steps(one, other, day, known);
    }

    /** How many pairs are SURE that are not without a VOUCHED one. */
    public int hangs(int vouch, int day, int known) {
        if (vouch < 0 || vouch >= life.vouched || !isDay(day) || !isDay(known)) {
            return NONE;
        }
        return life.hanging(vouch, day, known);
    }

    /** Rules of COMES and GOES from now on. */
    public int rules(int come, int go) {
        if (come < 0 || come > 1 || go < 0 || go > 1) {
            return refused(WRONG);
        }
        life.comeRule = come;
        life.goRule = go;
        return granted(0);
    }

    /** One COMES into the GROUP. */
    public int come(int one) {
        if (one < 0 || one >= MEMBERS) {
            return refused(WRONG);
        }
        if (life.isIn(one)) {
            return refused(CLASH);
        }
        if (life.time >= MOST_TIMES) {
            return refused(FULL);
        }
        return granted(life.nextTime(1 << one, life.comeRule == 0, 1 << one));
    }

    /** One GOES out of the GROUP. */
    public int go(int one) {
        if (one < 0 || one >= MEMBERS) {
            return refused(WRONG);
        }
        if (!life.isIn(one)) {
            return refused(CLASH);
        }
        if (life.time >= MOST_TIMES) {
            return refused(FULL);
        }
        return granted(life.nextTime(1 << one, life.goRule == 0, 0));
    }

    /** Who is in at a TIME, or who can MAKE its secret. */
    public int group(int time, int what) {
        if (time < 0 || time > life.time || time > MOST_TIMES) {
            return NONE;
        }
        switch (what) {
            case 0: return life.members[time];
            case 1: return life.holders(time);
            default: return NONE;
        }
    }

    /** An IMAGE is kept. */
    public int image(int k) {
        if (k < 0 || k >= IMAGES) {
            return refused(WRONG);
        }
        if (images[k] == null) {
            images[k] = new Life();
        }
        Life kept = images[k];
        if (kept != null) {
            kept.copyFrom(life);
        }
        return granted(0);
    }

    /** BACK to an IMAGE. */
    public int restore(int k) {
        if (k < 0 || k >= IMAGES) {
            return refused(WRONG);
        }
        Life kept = images[k];
        if (kept == null) {
            return refused(ABSENT);
        }
        life.copyFrom(kept);
        return granted(0);
    }

    /** How many there are of what. */
    public int count(int what) {
        switch (what) {
            case 0: return protocolCount;
            case 1: return shelfCount;
            case 2: return hadCount;
            case 3: return life.vouched;
            case 4: return life.time;
            case 5: return reader.length;
            default: return NONE;
        }
    }

    /** What the latest call that can be REFUSED was REFUSED by. */
    public int status() {
        return lastStatus;
    }

    private int refused(int by) {
        lastStatus = by;
        return by;
    }

    private int granted(int answer) {
        lastStatus = 0;
        return answer;
    }

    private void afterReading() {
        lastFault = reader.fault;
        reader.length = 0;
    }

    private void keepRead() {
        read.copyFrom(reader.draft);
        anyRead = true;
    }

    /** The search's rows are large: they are made when they are first asked for. */
    private Prover bench() {
        Prover bench = prover;
        if (bench == null) {
            Terms terms = new Terms();
            bench = new Prover(terms, new Known(terms), new Play(terms, shelves), new States(new Taken(terms)));
            prover = bench;
        }
        return bench;
    }

    private Script protocolAt(int number) {
        return number < 0 || number >= protocolCount || number >= MOST_PROTOCOLS ? null : protocols[number];
    }

    private Script wholeProtocolAt(int number) {
        Script script = protocolAt(number);
        return script == null || script.allHoles() != 0 ? null : script;
    }

    /** WORDS of a row of the SHELF together; NONE, if it is no row for these holes. */
    private int wordsOfRow(Script script, int[] choice) {
        int holes = script.allHoles();
        int words = 0;
        for (int hole = 0; hole < HOLES; hole++) {
            boolean has = (holes >> hole & 1) != 0;
            int place = choice[hole];
            if (has && (place < 0 || place >= shelfCount || place >= MOST_SHELF) || !has && place != 0) {
                return NONE;
            }
            Script term = has ? shelves[place] : null;
            if (term != null) {
                words += term.words[0];
            }
        }
        return words;
    }

    /** Whether with a row of the SHELF no x is FREE outside of a take. */
    private boolean rowIsBound(Script script, int[] choice) {
        for (int line = 0; line < script.lines; line++) {
            for (int hole = 0; hole < HOLES; hole++) {
                boolean has = (script.holes[line] >> hole & 1) != 0;
                int place = choice[hole];
                Script term = has && place >= 0 && place < MOST_SHELF ? shelves[place] : null;
                if (term != null && (term.xs[0] & ~script.ahead[line]) != 0) {
                    return false;
                }
            }
        }
        return true;
    }

    private void keepRow(Script script, int[] choice) {
        for (int hole = 0; hole < HOLES; hole++) {
            latestFilled[hole] = (script.allHoles() >> hole & 1) != 0 ? choice[hole] : NONE;
        }
    }

    private static boolean isPerson(int one) {
        return one >= 0 && one < PEOPLE;
    }

    private static boolean isDay(int day) {
        return day >= 0 && day < DAYS;
    }

    /** Euclid's way; 100 rounds are more than two longs can need. */
    private static long greatestCommon(long one, long other) {
        long a = one;
        long b = other;
        for (int round = 0; round < 100 && b != 0; round++) {
            long rest = a % b;
            a = b;
            b = rest;
        }
        return a;
    }

    /** A TEXT that was read: its words as a tree, and what is to be known of each LINE. */
    private static final class Script {
        final int[] kind;
        final int[] left;
        final int[] right;
        int nodes;
        final int[] column;
        final int[] act;
        final int[] root;
        final int[] words;
        /** Bits: "x" in a LINE, those FREE in it, those of takes ahead of it in its COLUMN; holes. */
        final int[] xs;
        final int[] free;
        final int[] ahead;
        final int[] holes;
        int lines;
        /** LINES of a COLUMN in order, those of b behind all places of a. */
        final int[] order;
        final int[] columns = new int[2];

        Script(int most) {
            int lineRoom = Math.max(1, most);
            int nodeRoom = lineRoom * MOST_WORDS;
            kind = new int[nodeRoom];
            left = new int[nodeRoom];
            right = new int[nodeRoom];
            column = new int[lineRoom];
            act = new int[lineRoom];
            root = new int[lineRoom];
            words = new int[lineRoom];
            xs = new int[lineRoom];
            free = new int[lineRoom];
            ahead = new int[lineRoom];
            holes = new int[lineRoom];
            order = new int[2 * lineRoom];
        }

        void empty() {
            nodes = 0;
            lines = 0;
            columns[0] = 0;
            columns[1] = 0;
        }

        /** A new node's number; NONE, if there is no place. */
        int node(int nodeKind, int first, int second) {
            if (nodes >= kind.length) {
                return NONE;
            }
            kind[nodes] = nodeKind;
            left[nodes] = first;
            right[nodes] = second;
            nodes++;
            return nodes - 1;
        }

        /** A new LINE's number; NONE, if there is no place. */
        int openLine(int lineColumn, int lineAct) {
            if (lines >= root.length || lineColumn < 0 || lineColumn > 1) {
                return NONE;
            }
            int line = lines;
            column[line] = lineColumn;
            act[line] = lineAct;
            root[line] = NONE;
            words[line] = 0;
            xs[line] = 0;
            free[line] = 0;
            ahead[line] = 0;
            holes[line] = 0;
            order[lineColumn * root.length + columns[lineColumn]] = line;
            columns[lineColumn]++;
            lines++;
            return line;
        }

        /** The k-th LINE of a COLUMN; NONE behind the last one. */
        int lineAt(int lineColumn, int k) {
            if (lineColumn < 0 || lineColumn > 1 || k < 0 || k >= columns[lineColumn]) {
                return NONE;
            }
            return order[lineColumn * root.length + k];
        }

        int allHoles() {
            int all = 0;
            for (int line = 0; line < lines; line++) {
                all |= holes[line];
            }
            return all;
        }

        /** Takes over what another one holds, as far as there is place. */
        void copyFrom(Script other) {
            empty();
            int some = Math.min(other.nodes, kind.length);
            for (int i = 0; i < some; i++) {
                node(other.kind[i], other.left[i], other.right[i]);
            }
            int rows = Math.min(other.lines, root.length);
            for (int i = 0; i < rows; i++) {
                int line = openLine(other.column[i], other.act[i]);
                if (line != NONE) {
                    root[line] = other.root[i];
                    words[line] = other.words[i];
                    xs[line] = other.xs[i];
                    free[line] = other.free[i];
                    ahead[line] = other.ahead[i];
                    holes[line] = other.holes[i];
                }
            }
        }
    }

    /** The TAPE and the reading of it, a TOKEN at a time. */
    private static final class Reader {
        private static final int ENDED = 0;
        private static final int LETTERS = 1;
        private static final int DIGITS = 2;
        private static final int SIGN = 3;

        final byte[] tape = new byte[MOST_BYTES];
        int length;
        final Script draft = new Script(MOST_LINES);
        int fault = NONE;
        private int token;
        private int start;
        private int stop;
        /** The LINE that is read, and the ACT that its TERM stands in. */
        private int line;
        private int act;
        private final int[] taken = new int[2];
        private int sureColumns;

        void append(int four) {
            for (int shift = 24; shift >= 0; shift -= 8) {
                if (length < MOST_BYTES) {
                    tape[length] = (byte) (four >>> shift);
                    length++;
                }
            }
        }

        boolean readProtocol() {
            begin();
            for (int k = 0; k < MOST_LINES; k++) {
                if (!readLine()) {
                    return false;
                }
                if (token == ENDED) {
                    return true;
                }
                if (!isSign(';')) {
                    return failedAt(start);
                }
                nextToken();
            }
            return failedAt(start);
        }

        /** A TERM alone, for the SHELF or to be HAD. */
        boolean readAlone(int place) {
            begin();
            act = place;
            line = draft.openLine(0, place);
            int root = line == NONE ? NONE : readTerm(0);
            if (root == NONE) {
                return false;
            }
            draft.root[line] = root;
            return token == ENDED || failedAt(start);
        }

        private void begin() {
            draft.empty();
            fault = NONE;
            stop = 0;
            taken[0] = 0;
            taken[1] = 0;
            sureColumns = 0;
            nextToken();
        }

        private boolean failedAt(int place) {
            fault = place;
            return false;
        }

        private int noneAt(int place) {
            fault = place;
            return NONE;
        }

        private boolean readLine() {
            int column = isWord("a") ? 0 : isWord("b") ? 1 : NONE;
            if (column == NONE) {
                return failedAt(start);
            }
            nextToken();
            act = actHere();
            boolean again = act == SURE && (sureColumns >> column & 1) != 0;
            if (act == NONE || again) {
                return failedAt(start);
            }
            if (act == SURE) {
                sureColumns |= 1 << column;
            }
            nextToken();
            line = draft.openLine(column, act);
            if (line == NONE) {
                return failedAt(start);
            }
            draft.ahead[line] = taken[column];
            int root = readTerm(0);
            if (root == NONE) {
                return false;
            }
            draft.root[line] = root;
            if (act == TAKE) {
                taken[column] |= draft.xs[line];
            }
            return true;
        }

        private int actHere() {
            if (isWord("send")) {
                return SEND;
            }
            if (isWord("take")) {
                return TAKE;
            }
            if (isWord("show")) {
                return SHOW;
            }
            return isWord("sure") ? SURE : NONE;
        }

        /** A TERM's node; NONE behind a FAULT. depth: brackets that are open. */
        private int readTerm(int depth) {
            int kind = wordHere();
            if (kind == NONE || draft.words[line] >= MOST_WORDS || depth > MOST_BRACKETS) {
                return noneAt(start);
            }
            draft.words[line]++;
            int place = start;
            nextToken();
            switch (kind) {
                case G: return draft.node(G, 0, 0);
                case NAME: return readNumbered(NAME, 1);
                case KEY: return readNumbered(KEY, 1);
                case LOT: return readNumbered(LOT, LOTS - 1);
                case X: return act == IN_HAND ? noneAt(place) : readX(place);
                case HOLE: return readHole(place);
                default: return readParts(kind, depth);
            }
        }

        private int readNumbered(int kind, int most) {
            int number = readNumber(most);
            return number == NONE ? NONE : draft.node(kind, number, 0);
        }

        private int readX(int place) {
            int number = readNumber(XS - 1);
            if (number == NONE) {
                return NONE;
            }
            int bit = 1 << number;
            draft.xs[line] |= bit;
            if (act != ON_SHELF && (draft.ahead[line] & bit) == 0) {
                draft.free[line] |= bit;
                if (act != TAKE || Integer.bitCount(draft.free[line]) > 2) {
                    return noneAt(place);
                }
            }
            return draft.node(X, number, 0);
        }

        private int readHole(int place) {
            if (act == TAKE || act == ON_SHELF || act == IN_HAND) {
                return noneAt(place);
            }
            int number = readNumber(HOLES - 1);
            if (number == NONE) {
                return NONE;
            }
            draft.holes[line] |= 1 << number;
            return draft.node(HOLE, number, 0);
        }

        /** What stands in brackets behind pair, seal, sum, raise. */
        private int readParts(int kind, int depth) {
            if (!isSign('(') || depth >= MOST_BRACKETS) {
                return noneAt(start);
            }
            nextToken();
            int made = readTerm(depth + 1);
            if (made == NONE) {
                return NONE;
            }
            if (kind == SUM) {
                made = draft.node(SUM, made, 0);
            } else if (kind == RAISE) {
                made = readBys(made);
            } else {
                if (!isSign(',')) {
                    return noneAt(start);
                }
                nextToken();
                int second = readTerm(depth + 1);
                made = second == NONE ? NONE : draft.node(kind, made, second);
            }
            if (made == NONE) {
                return NONE;
            }
            if (!isSign(')')) {
                return noneAt(start);
            }
            nextToken();
            return made;
        }

        /** One BY at least; each makes a RAISE around what was there. */
        private int readBys(int base) {
            int made = base;
            for (int k = 0; k <= MOST_WORDS; k++) {
                if (!isSign(',')) {
                    return k == 0 ? noneAt(start) : made;
                }
                nextToken();
                boolean byLot = isWord("lot");
                if (!byLot && !isWord("key") || draft.words[line] >= MOST_WORDS) {
                    return noneAt(start);
                }
                draft.words[line]++;
                nextToken();
                int number = readNumber(byLot ? LOTS - 1 : 1);
                if (number == NONE) {
                    return NONE;
                }
                made = draft.node(RAISE, made, byLot ? ATOM_LOT + number : number);
            }
            return noneAt(start);
        }

        private int readNumber(int most) {
            if (token != DIGITS) {
                return noneAt(start);
            }
            int number = 0;
            for (int i = start; i < stop && i < MOST_BYTES; i++) {
                // A long row of digits must not wrap around into the range.
                number = Math.min(1000, 10 * number + tape[i] - '0');
            }
            if (number > most) {
                return noneAt(start);
            }
            nextToken();
            return number;
        }

        private int wordHere() {
            if (token != LETTERS) {
                return NONE;
            }
            if (isWord("g")) {
                return G;
            }
            if (isWord("name")) {
                return NAME;
            }
            if (isWord("key")) {
                return KEY;
            }
            if (isWord("lot")) {
                return LOT;
            }
            if (isWord("x")) {
                return X;
            }
            if (isWord("hole")) {
                return HOLE;
            }
            if (isWord("pair")) {
                return PAIR;
            }
            if (isWord("seal")) {
                return SEAL;
            }
            if (isWord("sum")) {
                return SUM;
            }
            return isWord("raise") ? RAISE : NONE;
        }

        private boolean isWord(String word) {
            if (token != LETTERS || stop - start != word.length()) {
                return false;
            }
            for (int i = 0; i < word.length() && start + i < MOST_BYTES; i++) {
                if (tape[start + i] != word.charAt(i)) {
                    return false;
                }
            }
            return true;
        }

        private boolean isSign(char sign) {
            return token == SIGN && start < MOST_BYTES && tape[start] == sign;
        }

        private void nextToken() {
            int most = Math.min(length, MOST_BYTES);
            int i = stop;
            while (i < most && tape[i] == ' ') {
                i++;
            }
            start = i;
            token = i < most ? SIGN : ENDED;
            while (i < most && tape[i] >= 'a' && tape[i] <= 'z') {
                token = LETTERS;
                i++;
            }
            while (i < most && token != LETTERS && tape[i] >= '0' && tape[i] <= '9') {
                token = DIGITS;
                i++;
            }
            stop = token == SIGN ? i + 1 : i;
        }
    }

    /**
     * The TERMS of a STATE that is gone through, each once, so that the same TERM has the same number.
     * A RAISE by several ATOMS is a chain, the greatest ATOM outermost: so it has one shape.
     */
    private static final class Terms {
        private static final int HEADS = 64;
        /**
         * TERMS that a STATE can have at once, with no more parts each than its SIZE: what each END took for each x, the
         * LINES of both ROOMS, and one that is TAKEN; and of one that turns out too large what is ahead of each bracket
         * that is open, in a LINE and in what fills a hole of it, and the last two. The THIRD's two RAISES come to it.
         * What else is asked needs less: make() has 21 TERMS of a LINE's words, a RUN one ROOM. So there is always place.
         */
        private static final int MOST_TERMS = ATOMS + 2
                + (ENDS * XS + 2 * MOST_LINES + 1 + 2 * MOST_BRACKETS + 2) * MOST_SIZE;

        final int[] kind = new int[MOST_TERMS];
        final int[] left = new int[MOST_TERMS];
        final int[] right = new int[MOST_TERMS];
        final int[] size = new int[MOST_TERMS];
        /** When a TERM was last GOT, and last found to be MADE or not: see Known. */
        final int[] got = new int[MOST_TERMS];
        final int[] made = new int[MOST_TERMS];
        private final int[] next = new int[MOST_TERMS];
        private final int[] heads = new int[HEADS];
        /** How often each ATOM is in a RAISE that is made. */
        private final int[] by = new int[ATOM_G];
        int count;

        /** The ATOMS alone. */
        void restart() {
            Arrays.fill(heads, NONE);
            count = ATOMS;
            for (int i = 0; i < count; i++) {
                kind[i] = ATOM;
                size[i] = 1;
                got[i] = 0;
                made[i] = 0;
            }
        }

        /** The TERM of a kind with these parts; NONE, if its SIZE would be above the most, or a part is none. */
        int join(int termKind, int first, int second) {
            if (first < 0 || first >= count || second < 0 || second >= count) {
                return NONE;
            }
            int termSize = size[first] + 1;
            if (termKind == PAIR || termKind == SEAL) {
                termSize += size[second];
            } else if (termKind == RAISE && kind[first] != RAISE) {
                termSize++;
            }
            if (termSize > MOST_SIZE) {
                return NONE;
            }
            int head = termKind + 7 * first + 19 * second & HEADS - 1;
            int same = heads[head];
            for (int k = 0; k < count && same >= 0 && same < count; k++) {
                if (kind[same] == termKind && left[same] == first && right[same] == second) {
                    return same;
                }
                same = next[same];
            }
            if (count >= kind.length) {
                return NONE;
            }
            kind[count] = termKind;
            left[count] = first;
            right[count] = second;
            size[count] = termSize;
            got[count] = 0;
            made[count] = 0;
            next[count] = heads[head];
            heads[head] = count;
            count++;
            return count - 1;
        }

        /** RAISE of a TERM by more ATOMS of an END: one chain by all of them, so that none is made on the way. */
        int raise(int term, int bys, int end) {
            if (term < 0 || term >= count || end < 0 || end >= ENDS) {
                return NONE;
            }
            Arrays.fill(by, 0);
            for (int word = 0; word < ATOM_LOT + LOTS; word++) {
                by[word < ATOM_LOT ? word : word + LOTS * end] = bys >> BY_BITS * word & BY_MASK;
            }
            int raised = term;
            for (int k = 0; k <= MOST_SIZE && kind[raised] == RAISE && right[raised] < ATOM_G; k++) {
                by[right[raised]]++;
                raised = left[raised];
            }
            for (int atom = 0; atom < ATOM_G; atom++) {
                for (int k = 0; k < by[atom]; k++) {
                    raised = join(RAISE, raised, atom);
                }
            }
            return raised;
        }

        /** All TERMS made since there were so many are forgotten. */
        void forget(int mark) {
            int least = Math.max(mark, ATOMS);
            while (count > least) {
                count--;
                heads[kind[count] + 7 * left[count] + 19 * right[count] & HEADS - 1] = next[count];
            }
        }

        /** What is under a RAISE; another TERM itself. */
        int under(int term) {
            int base = term;
            for (int k = 0; k <= MOST_SIZE && kind[base] == RAISE; k++) {
                base = left[base];
            }
            return base;
        }
    }

    /** What is GOT from what is HAD, and what can be MADE from it. */
    private static final class Known {
        /** What the THIRD has, and each LINE of both ROOMS with its parts. */
        private static final int MOST_GOT = ATOMS + 2 * MOST_LINES * MOST_SIZE;

        private final Terms terms;
        private final int[] list = new int[MOST_GOT];
        private int count;
        /** Marks of other rounds than these say nothing of now. */
        private int gotRound;
        private int madeRound;

        Known(Terms all) {
            terms = all;
        }

        /** To be called when the TERMS are made anew, as their marks are. */
        void restart() {
            gotRound = 1;
            madeRound = 1;
            count = 0;
        }

        void empty() {
            gotRound++;
            madeRound++;
            count = 0;
        }

        /** A TERM is GOT, with the parts of PAIRS. */
        void add(int term) {
            int done = count;
            push(term);
            for (; done < count && done < MOST_GOT; done++) {
                int one = list[done];
                if (terms.kind[one] == PAIR) {
                    push(terms.left[one]);
                    push(terms.right[one]);
                }
            }
        }

        private void push(int term) {
            if (term >= 0 && term < terms.count && count < MOST_GOT && terms.got[term] != gotRound) {
                terms.got[term] = gotRound;
                list[count] = term;
                count++;
                madeRound++;
            }
        }

        /** SEALS are opened till no more can be. */
        void settle() {
            boolean grew = true;
            for (int round = 0; grew && round < MOST_GOT; round++) {
                grew = false;
                for (int i = 0; i < count && i < MOST_GOT; i++) {
                    int one = list[i];
                    boolean shut = terms.kind[one] == SEAL && terms.got[terms.left[one]] != gotRound;
                    if (shut && can(terms.right[one], 0)) {
                        add(terms.left[one]);
                        grew = true;
                    }
                }
            }
        }

        /** Whether a TERM can be MADE. */
        private boolean can(int term, int depth) {
            if (term < 0 || term >= terms.count || depth > MOST_SIZE) {
                return false;
            }
            if (terms.got[term] == gotRound) {
                return true;
            }
            int mark = terms.made[term];
            if (mark >> 1 == madeRound) {
                return (mark & 1) != 0;
            }
            boolean is = false;
            switch (terms.kind[term]) {
                case PAIR:
                case SEAL:
                    is = can(terms.left[term], depth + 1) && can(terms.right[term], depth + 1);
                    break;
                case SUM:
                    is = can(terms.left[term], depth + 1);
                    break;
                case RAISE:
                    is = canRaise(term, depth);
                    break;
                default:
                    break;
            }
            terms.made[term] = 2 * madeRound + (is ? 1 : 0);
            return is;
        }

        private boolean canRaise(int term, int depth) {
            int base = term;
            boolean byAll = true;
            for (int k = 0; k <= MOST_SIZE && terms.kind[base] == RAISE; k++) {
                byAll = byAll && can(terms.right[base], depth + 1);
                base = terms.left[base];
            }
            if (byAll && can(base, depth + 1)) {
                return true;
            }
            for (int i = 0; i < count && i < MOST_GOT; i++) {
                if (terms.kind[list[i]] == RAISE && canBecome(list[i], term, depth)) {
                    return true;
                }
            }
            return false;
        }

        /** Whether a RAISE becomes another one by ATOMS that can be MADE: both chains from the greatest ATOM down. */
        private boolean canBecome(int had, int wanted, int depth) {
            int one = had;
            int other = wanted;
            for (int k = 0; k <= MOST_SIZE && terms.kind[other] == RAISE; k++) {
                if (terms.kind[one] == RAISE && terms.right[one] == terms.right[other]) {
                    one = terms.left[one];
                } else if (!can(terms.right[other], depth + 1)) {
                    return false;
                }
                other = terms.left[other];
            }
            return one == other;
        }
    }

    /** Where the ENDS are, what they took, and the TERMS that LINES are for them. */
    private static final class Play {
        /** Brackets of a LINE, and of the SHELF's TERM in a hole of it; words of both. */
        private static final int MOST_DEPTH = 2 * MOST_BRACKETS;
        private static final int MOST_LINKS = 2 * MOST_WORDS;

        final Terms terms;
        private final Script[] shelf;
        final int[] choice = new int[HOLES];
        Script script;
        final int[] at = new int[ENDS];
        final int[] stopped = new int[ENDS];
        final int[] took = new int[ENDS * XS];
        int unlike;
        private int careless;

        Play(Terms all, Script[] forHoles) {
            terms = all;
            shelf = forHoles;
        }

        void open(Script played, int people) {
            script = played;
            careless = people;
            unlike = 0;
            Arrays.fill(at, 0);
            Arrays.fill(stopped, 0);
            Arrays.fill(took, NONE);
        }

        /** What of the SHELF is in the holes: a row by its number, the first hole's foremost. */
        void choose(int row) {
            choice[0] = row / (MOST_SHELF * MOST_SHELF) % MOST_SHELF;
            choice[1] = row / MOST_SHELF % MOST_SHELF;
            choice[2] = row % MOST_SHELF;
        }

        private Script inHole(int hole) {
            int place = hole < 0 || hole >= HOLES ? NONE : choice[hole];
            return place < 0 || place >= shelf.length ? null : shelf[place];
        }

        /** The LINE that an END is at; NONE, if it STOPPED or is through. */
        int lineOf(int end) {
            if (script == null || end < 0 || end >= ENDS || stopped[end] != 0) {
                return NONE;
            }
            return script.lineAt(end & 1, at[end]);
        }

        /** The ACT that an END is at; NONE, if it STOPPED or is through. */
        int actOf(int end) {
            int line = lineOf(end);
            return line == NONE ? NONE : script.act[line];
        }

        /** The TERM of a LINE for an END; NONE, if its SIZE would be above the most. */
        int termOf(int line, int end) {
            if (script == null || line < 0 || line >= script.lines) {
                return NONE;
            }
            return instance(script, script.root[line], end, 0);
        }

        /** A TERM read alone, of END a of ROOM 0. */
        int alone(Script one) {
            return one == null || one.lines < 1 ? NONE : instance(one, one.root[0], 0, 0);
        }

        /**
         * The TERM of a node for an END; NONE, if its SIZE would be above the most: then nothing of it stays.
         * All that RAISES it comes together first, so that no RAISE is made on the way to another one.
         */
        private int instance(Script of, int node, int end, int depth) {
            Script in = of;
            int here = node;
            int bys = 0;
            for (int k = 0; k < MOST_LINKS && isLink(in, here); k++) {
                if (in.kind[here] == RAISE) {
                    bys += 1 << BY_BITS * in.right[here];
                    here = in.left[here];
                } else {
                    in = inHole(in.left[here]);
                    here = in == null ? NONE : in.root[0];
                }
            }
            if (in == null || here < 0 || here >= in.nodes || end < 0 || end >= ENDS || depth > MOST_DEPTH) {
                return NONE;
            }
            int before = terms.count;
            int kind = in.kind[here];
            int first = in.left[here];
            int made = first;
            if (kind == PAIR || kind == SEAL || kind == SUM) {
                int one = instance(in, first, end, depth + 1);
                int other = kind == SUM || one == NONE ? 0 : instance(in, in.right[here], end, depth + 1);
                made = terms.join(kind, one, other);
            } else if (kind == X) {
                made = first < 0 || first >= XS ? NONE : took[XS * end + first];
            } else if (kind != KEY) {
                made += kind == G ? ATOM_G : kind == NAME ? ATOM_NAME : ATOM_LOT + LOTS * end;
            }
            if (bys != 0) {
                made = terms.raise(made, bys, end);
            }
            if (made == NONE) {
                terms.forget(before);
            }
            return made;
        }

        /** Whether a TERM stands further on: under a RAISE, or in a hole. */
        private static boolean isLink(Script in, int node) {
            return in != null && node >= 0 && node < in.nodes && (in.kind[node] == RAISE || in.kind[node] == HOLE);
        }

        /** Both ENDS of a ROOM go on as far as they can without a TAKE. */
        void goOn(int room) {
            int a = 2 * room;
            int b = a + 1;
            for (int k = 0; k <= 4 * MOST_LINES; k++) {
                boolean moved = step(a);
                moved = step(b) || moved;
                if (!moved && !meet(a, b)) {
                    return;
                }
            }
        }

        /** One LINE of an END, if it is not one to wait at. */
        private boolean step(int end) {
            int line = lineOf(end);
            if (line == NONE || script.act[line] == TAKE) {
                return false;
            }
            if (instance(script, script.root[line], end, 0) == NONE) {
                stopped[end] = 1;
                return false;
            }
            if (script.act[line] == SHOW) {
                return false;
            }
            at[end]++;
            return true;
        }

        /** Whether both ENDS were at a show and went on. */
        private boolean meet(int a, int b) {
            int lineA = lineOf(a);
            int lineB = lineOf(b);
            if (lineA == NONE || lineB == NONE || script.act[lineA] != SHOW || script.act[lineB] != SHOW) {
                return false;
            }
            boolean alike = instance(script, script.root[lineA], a, 0) == instance(script, script.root[lineB], b, 0);
            if (!alike && unlike >= careless) {
                stopped[a] = 1;
                stopped[b] = 1;
                return false;
            }
            if (!alike) {
                unlike++;
            }
            at[a]++;
            at[b]++;
            return true;
        }

        /** The TERM that an END is SURE of; NONE, if it is not. */
        int sureTerm(int end) {
            if (script == null || end < 0 || end >= ENDS) {
                return NONE;
            }
            for (int k = 0; k < at[end]; k++) {
                int line = script.lineAt(end & 1, k);
                if (line != NONE && script.act[line] == SURE) {
                    return instance(script, script.root[line], end, 0);
                }
            }
            return NONE;
        }
    }

    /**
     * The TERMS that ENDS took, each once, written out sign by sign: so a search need not keep what its STATES sent.
     * A sign is an ATOM, a PAIR, a SEAL or a SUM ahead of its parts, or one ATOM of a RAISE ahead of what is under it.
     */
    private static final class Taken {
        /** Each STATE has two more than the one ahead of it at most, and so has that for which there is no place. */
        private static final int MOST_TAKEN = 2 * MOST_STATES;
        private static final int HEADS = 64;
        /** Three longs of ten signs: as many as the largest SIZE. */
        private static final int LONGS = 3;
        private static final int SIGNS = 10;
        private static final int SIGN_BITS = 6;
        private static final int SIGN_MASK = 63;
        private static final int RAISED = 32;

        private final Terms terms;
        private final long[] written = new long[LONGS * MOST_TAKEN];
        /** The number of each among the TERMS of now; NONE, if it was forgotten there. */
        private final int[] now = new int[MOST_TAKEN];
        private final int[] next = new int[MOST_TAKEN];
        private final int[] heads = new int[HEADS];
        private final long[] draft = new long[LONGS];
        /** How many signs are written or read. */
        private int signs;
        private int count;

        Taken(Terms all) {
            terms = all;
        }

        void restart() {
            Arrays.fill(heads, NONE);
            count = 0;
        }

        /** To be called when the TERMS are forgotten. */
        void leaveTerms() {
            Arrays.fill(now, NONE);
        }

        /** The number of a TERM among what was taken: it is from now on. */
        int numberOf(int term) {
            Arrays.fill(draft, 0L);
            signs = 0;
            write(term, 0);
            int head = headOfDraft();
            int one = heads[head];
            for (int k = 0; k < count && one >= 0 && one < count; k++) {
                if (isDraft(one)) {
                    now[one] = term;
                    return one;
                }
                one = next[one];
            }
            if (count >= MOST_TAKEN) {
                return NONE;
            }
            System.arraycopy(draft, 0, written, LONGS * count, LONGS);
            now[count] = term;
            next[count] = heads[head];
            heads[head] = count;
            count++;
            return count - 1;
        }

        /** A TERM that was taken, by its number here. */
        int termOf(int number) {
            if (number < 0 || number >= count || number >= MOST_TAKEN) {
                return NONE;
            }
            if (now[number] == NONE) {
                signs = 0;
                now[number] = read(LONGS * number, 0);
            }
            return now[number];
        }

        private int headOfDraft() {
            long mixed = (draft[0] * 31 + draft[1]) * 31 + draft[2];
            return (int) (mixed ^ mixed >>> 12 ^ mixed >>> 30 ^ mixed >>> 48) & HEADS - 1;
        }

        private boolean isDraft(int number) {
            for (int i = 0; i < LONGS; i++) {
                if (written[LONGS * number + i] != draft[i]) {
                    return false;
                }
            }
            return true;
        }

        private void write(int term, int depth) {
            if (term < 0 || term >= terms.count || signs >= LONGS * SIGNS || depth > MOST_SIZE) {
                return;
            }
            int kind = terms.kind[term];
            int sign = kind == ATOM ? term : kind == RAISE ? RAISED + terms.right[term] : ATOMS + kind;
            draft[signs / SIGNS] |= (long) sign << SIGN_BITS * (signs % SIGNS);
            signs++;
            if (kind != ATOM) {
                write(terms.left[term], depth + 1);
            }
            if (kind == PAIR || kind == SEAL) {
                write(terms.right[term], depth + 1);
            }
        }

        private int read(int from, int depth) {
            if (from < 0 || from + LONGS > written.length || signs >= LONGS * SIGNS || depth > MOST_SIZE) {
                return NONE;
            }
            int sign = (int) (written[from + signs / SIGNS] >>> SIGN_BITS * (signs % SIGNS)) & SIGN_MASK;
            signs++;
            if (sign < ATOMS) {
                return sign;
            }
            int first = read(from, depth + 1);
            if (sign >= RAISED) {
                return terms.join(RAISE, first, sign - RAISED);
            }
            return terms.join(sign - ATOMS, first, sign == ATOMS + SUM ? 0 : read(from, depth + 1));
        }
    }

    /** The STATES that were gone through, in order, with the TAKE that first led to each. */
    private static final class States {
        private static final int HEADS = 512;
        private static final int WIDTH = 1 + ENDS * XS;

        final Taken taken;
        private final int[] keys = new int[MOST_STATES * WIDTH];
        /** The STATE that is looked at: where ENDS are, and what they took by its number among what was taken. */
        private final int[] key = new int[WIDTH];
        private final int[] next = new int[MOST_STATES];
        private final int[] heads = new int[HEADS];
        final int[] parent = new int[MOST_STATES];
        final int[] take = new int[MOST_STATES];
        int count;
        private boolean over;

        States(Taken all) {
            taken = all;
        }

        void restart() {
            taken.restart();
            Arrays.fill(heads, NONE);
            Arrays.fill(key, NONE);
            count = 0;
            over = false;
        }

        /** Whether the STATE of a play is not yet among them; it is then, if there is place. */
        boolean isNew(Play play, int from, int by) {
            int head = writeKey(play);
            int one = heads[head];
            for (int k = 0; k < count && one >= 0 && one < count; k++) {
                if (isKeyOf(one)) {
                    return false;
                }
                one = next[one];
            }
            over = count >= MOST_STATES;
            if (!over) {
                System.arraycopy(key, 0, keys, count * WIDTH, WIDTH);
                parent[count] = from;
                take[count] = by;
                next[count] = heads[head];
                heads[head] = count;
                count++;
            }
            return true;
        }

        /** Whether there was no place for the latest new one. */
        boolean isOver() {
            return over;
        }

        private int writeKey(Play play) {
            int packed = play.unlike;
            for (int end = 0; end < ENDS; end++) {
                packed = packed * 32 + play.at[end] * 2 + play.stopped[end];
            }
            key[0] = packed;
            int mixed = packed;
            for (int i = 1; i < WIDTH; i++) {
                mixed = mixed * 31 + key[i];
            }
            return (mixed ^ mixed >>> 9 ^ mixed >>> 18) & HEADS - 1;
        }

        private boolean isKeyOf(int state) {
            for (int i = 0; i < WIDTH; i++) {
                if (keys[state * WIDTH + i] != key[i]) {
                    return false;
                }
            }
            return true;
        }

        /** In the STATE that is looked at an END took a TERM for an x. */
        void put(int end, int x, int term) {
            if (end >= 0 && end < ENDS && x >= 0 && x < XS) {
                key[1 + XS * end + x] = taken.numberOf(term);
            }
        }

        /** A STATE is looked at, and a play put into it. */
        void load(int state, Play play) {
            if (state < 0 || state >= count || state >= MOST_STATES) {
                return;
            }
            System.arraycopy(keys, state * WIDTH, key, 0, WIDTH);
            int packed = key[0];
            for (int end = ENDS - 1; end >= 0; end--) {
                play.stopped[end] = packed & 1;
                play.at[end] = packed >> 1 & 15;
                packed >>= 5;
            }
            play.unlike = packed;
            for (int i = 0; i < ENDS * XS; i++) {
                play.took[i] = taken.termOf(key[1 + i]);
            }
        }
    }

    /** The going through of STATES, least first. */
    private static final class Prover {
        private static final int PLACES = MOST_CANDIDATES + 1;

        final Terms terms;
        final Known known;
        final Play play;
        final States states;
        int rooms;
        /** The END that is SURE of what the THIRD can MAKE. */
        int cheat;
        private final int[] candidates = new int[MOST_CANDIDATES];
        private int candidateCount;
        /** Each TAKE of a STATE leads to another one: behind so many there was one for which there is no place. */
        private final int[] takes = new int[MOST_STATES + 1];
        private int takeCount;
        private int mark;

        Prover(Terms all, Known third, Play ends, States gone) {
            terms = all;
            known = third;
            play = ends;
            states = gone;
        }

        /** The ATOMS alone. */
        void freshTerms() {
            terms.restart();
            known.restart();
        }

        int search(Script script, int howManyRooms, int careless) {
            rooms = howManyRooms;
            cheat = NONE;
            mark = ATOMS;
            freshTerms();
            states.restart();
            play.open(script, careless);
            for (int room = 0; room < rooms; room++) {
                play.goOn(room);
            }
            states.isNew(play, NONE, 0);
            if (isCheated()) {
                return CHEATED;
            }
            for (int i = 0; i < states.count && i < MOST_STATES; i++) {
                terms.forget(ATOMS);
                states.taken.leaveTerms();
                listTakes(i);
                for (int k = 0; k < takeCount; k++) {
                    terms.forget(mark);
                    follow(i, takes[k]);
                    if (states.isNew(play, i, takes[k])) {
                        if (states.isOver()) {
                            return SPENT;
                        }
                        if (isCheated()) {
                            return CHEATED;
                        }
                    }
                }
            }
            return PROVED;
        }

        private boolean isCheated() {
            boolean any = false;
            for (int end = 0; end < 2 * rooms; end++) {
                any = play.sureTerm(end) != NONE || any;
            }
            if (!any) {
                return false;
            }
            hear();
            for (int end = 0; end < 2 * rooms; end++) {
                if (known.can(play.sureTerm(end), 0)) {
                    cheat = end;
                    return true;
                }
            }
            for (int room = 0; room < rooms; room++) {
                int a = play.sureTerm(2 * room);
                int b = play.sureTerm(2 * room + 1);
                if (a != NONE && b != NONE && a != b) {
                    return true;
                }
            }
            return false;
        }

        /** The THIRD knows its own and all that was sent. */
        private void hear() {
            known.empty();
            for (int atom = ATOM_THIRD; atom < ATOMS; atom++) {
                known.add(atom);
            }
            for (int end = 0; end < 2 * rooms; end++) {
                for (int k = 0; k < play.at[end]; k++) {
                    known.add(sentTerm(end, k));
                }
            }
            known.settle();
        }

        /** What an END sent by its k-th LINE; NONE, if that is no send. */
        private int sentTerm(int end, int k) {
            int line = play.script == null ? NONE : play.script.lineAt(end & 1, k);
            boolean sends = line != NONE && play.script.act[line] == SEND;
            return sends ? play.instance(play.script, play.script.root[line], end, 0) : NONE;
        }

        /** All TAKES that a STATE allows, in order. */
        private void listTakes(int state) {
            states.load(state, play);
            takeCount = 0;
            boolean any = false;
            for (int end = 0; end < 2 * rooms; end++) {
                any = play.actOf(end) == TAKE || any;
            }
            if (!any) {
                return;
            }
            listCandidates();
            hear();
            // What was sent stays for all TAKES, as CANDIDATES are of it; what a TAKE makes is forgotten again.
            mark = terms.count;
            for (int end = 0; end < 2 * rooms; end++) {
                if (play.actOf(end) == TAKE) {
                    listTakesOf(end, play.lineOf(end));
                }
            }
        }

        private void listTakesOf(int end, int line) {
            int free = play.script.free[line];
            int low = free == 0 ? NONE : Integer.numberOfTrailingZeros(free);
            int rest = free & free - 1;
            int high = rest == 0 ? NONE : Integer.numberOfTrailingZeros(rest);
            int bare = bareXs(play.script.root[line], 0);
            for (int first = 0; first < (low == NONE ? 1 : candidateCount); first++) {
                if (!mayStand(end, low, first, bare)) {
                    continue;
                }
                for (int second = 0; second < (high == NONE ? 1 : candidateCount); second++) {
                    if (mayStand(end, high, second, bare) && known.can(play.termOf(line, end), 0)
                            && takeCount < takes.length) {
                        int one = low == NONE ? 0 : first + 1;
                        int other = high == NONE ? 0 : second + 1;
                        takes[takeCount] = (end * PLACES + one) * PLACES + other;
                        takeCount++;
                    }
                    terms.forget(mark);
                }
            }
            putX(end, low, NONE);
            putX(end, high, NONE);
        }

        /** Puts a CANDIDATE for a FREE x, and whether it can lead to what can be MADE. */
        private boolean mayStand(int end, int x, int place, int bare) {
            if (x == NONE) {
                return true;
            }
            putX(end, x, candidates[place]);
            return (bare >> x & 1) == 0 || known.can(candidates[place], 0);
        }

        private void putX(int end, int x, int term) {
            if (x >= 0 && x < XS) {
                play.took[XS * end + x] = term;
            }
        }

        /** Each x in PAIRS alone: a PAIR can be MADE only from parts that can be. */
        private int bareXs(int node, int depth) {
            Script script = play.script;
            if (script == null || node < 0 || node >= script.nodes || depth > MOST_WORDS) {
                return 0;
            }
            if (script.kind[node] == X) {
                return 1 << script.left[node];
            }
            if (script.kind[node] != PAIR) {
                return 0;
            }
            return bareXs(script.left[node], depth + 1) | bareXs(script.right[node], depth + 1);
        }

        /** The STATE that a TAKE leads to. */
        private void follow(int state, int take) {
            states.load(state, play);
            int end = take / (PLACES * PLACES);
            int first = take / PLACES % PLACES - 1;
            int second = take % PLACES - 1;
            int line = play.lineOf(end);
            if (line == NONE) {
                return;
            }
            int free = play.script.free[line];
            if (first >= 0 && free != 0) {
                takeX(end, Integer.numberOfTrailingZeros(free), candidates[first]);
            }
            if (second >= 0 && (free & free - 1) != 0) {
                takeX(end, Integer.numberOfTrailingZeros(free & free - 1), candidates[second]);
            }
            play.at[end]++;
            play.goOn(end / 2);
        }

        private void takeX(int end, int x, int term) {
            putX(end, x, term);
            states.put(end, x, term);
        }

        private void listCandidates() {
            candidateCount = 0;
            addCandidate(ATOM_THIRD);
            addCandidate(ATOM_THIRD + 1);
            addCandidate(terms.join(RAISE, ATOM_G, ATOM_THIRD));
            addCandidate(terms.join(RAISE, ATOM_G, ATOM_THIRD + 1));
            addCandidate(ATOM_NAME);
            addCandidate(ATOM_NAME + 1);
            for (int end = 0; end < 2 * rooms; end++) {
                for (int k = 0; k < play.at[end]; k++) {
                    addParts(sentTerm(end, k), 0);
                }
            }
        }

        /** A TERM, then its parts from the left, each with its own parts behind it. */
        private void addParts(int term, int depth) {
            if (term < 0 || term >= terms.count || depth > MOST_SIZE || candidateCount >= MOST_CANDIDATES) {
                return;
            }
            addCandidate(term);
            switch (terms.kind[term]) {
                case PAIR:
                case SEAL:
                    addParts(terms.left[term], depth + 1);
                    addParts(terms.right[term], depth + 1);
                    break;
                case SUM:
                    addParts(terms.left[term], depth + 1);
                    break;
                case RAISE:
                    addParts(terms.under(term), depth + 1);
                    addAtoms(term, depth + 1);
                    break;
                default:
                    break;
            }
        }

        /** A RAISE's ATOMS, the least first: it is the innermost. */
        private void addAtoms(int term, int depth) {
            if (depth > 2 * MOST_SIZE || terms.kind[term] != RAISE) {
                return;
            }
            addAtoms(terms.left[term], depth + 1);
            addCandidate(terms.right[term]);
        }

        private void addCandidate(int term) {
            if (term == NONE || candidateCount >= MOST_CANDIDATES) {
                return;
            }
            for (int i = 0; i < candidateCount; i++) {
                if (candidates[i] == term) {
                    return;
                }
            }
            candidates[candidateCount] = term;
            candidateCount++;
        }
    }

    /** What the latest prove() found, kept apart from the search's rows. */
    private static final class Latest {
        boolean kept;
        int states;
        int takes;
        int cheat;
        int rooms;
        private int outcome;
        /** No COURSE is longer than all LINES of two ROOMS. */
        final int[] ends = new int[2 * MOST_LINES];
        final int[] firsts = new int[2 * MOST_LINES];
        final int[] seconds = new int[2 * MOST_LINES];
        final int[] at = new int[ENDS];
        final int[] stopped = new int[ENDS];
        /** SIZE of what an END is SURE of; NONE, if it is not. */
        final int[] size = new int[ENDS];

        boolean cheated() {
            return kept && outcome == CHEATED;
        }

        void keep(Prover from, int how) {
            kept = true;
            outcome = how;
            states = from.states.count;
            cheat = from.cheat;
            rooms = from.rooms;
            takes = 0;
            if (how == CHEATED) {
                keepCourse(from.states);
                keepEnds(from);
            }
        }

        private void keepCourse(States all) {
            int state = all.count - 1;
            for (int k = 0; k < ends.length && state > 0 && state < MOST_STATES; k++) {
                takes++;
                state = all.parent[state];
            }
            state = all.count - 1;
            for (int i = takes - 1; i >= 0 && state > 0 && state < MOST_STATES; i--) {
                int take = all.take[state];
                ends[i] = take / (Prover.PLACES * Prover.PLACES);
                firsts[i] = take / Prover.PLACES % Prover.PLACES - 1;
                seconds[i] = take % Prover.PLACES - 1;
                state = all.parent[state];
            }
        }

        private void keepEnds(Prover from) {
            from.states.load(from.states.count - 1, from.play);
            for (int end = 0; end < ENDS; end++) {
                at[end] = from.play.at[end];
                stopped[end] = from.play.stopped[end];
                int term = end < 2 * rooms ? from.play.sureTerm(end) : NONE;
                size[end] = term == NONE ? NONE : from.terms.size[term];
            }
        }
    }

    /** All RUNS of a PROTOCOL, EVENT by EVENT. */
    private static final class Runs {
        /** A hundred to the most EVENTS: what all RUNS weigh together. */
        static final long WHOLE = 10000000000000000L;
        private static final int LOST = 0;
        private static final int MISREAD = 1;

        private final Play play;
        final long[] weights = new long[4];
        /** What lies for each END, in order, b's behind all places of a's. */
        private final int[] lying = new int[2 * MOST_LINES];
        private final int[] came = new int[2];
        private final int[] gone = new int[2];
        private final int[] sureOf = new int[2];
        private final int[] fate = new int[MOST_EVENTS];
        private final int[] sort = new int[MOST_EVENTS];
        private int events;
        private boolean tooMany;

        Runs(Play ends) {
            play = ends;
        }

        /** Fills the weights of the kinds; false, if a RUN has too many EVENTS. */
        boolean weigh(Script script, int lost, int misread) {
            Arrays.fill(weights, 0L);
            Arrays.fill(fate, 0);
            play.terms.restart();
            play.open(script, 0);
            for (int run = 0; run < 1 << MOST_EVENTS; run++) {
                runOnce(script);
                if (tooMany) {
                    return false;
                }
                weights[kindOfRun()] += weight(lost, misread);
                if (!nextFate()) {
                    return true;
                }
            }
            return true;
        }

        private int kindOfRun() {
            boolean a = sureOf[0] != NONE;
            boolean b = sureOf[1] != NONE;
            if (a && b) {
                return sureOf[0] == sureOf[1] ? 0 : 1;
            }
            return a || b ? 2 : 3;
        }

        private long weight(int lost, int misread) {
            long product = 1;
            for (int i = 0; i < MOST_EVENTS; i++) {
                int share = 100;
                if (i < events) {
                    int hundredths = sort[i] == LOST ? lost : misread;
                    share = fate[i] != 0 ? hundredths : 100 - hundredths;
                }
                product *= share;
            }
            return product;
        }

        /** The next row of fates behind this RUN's; false behind the last one. */
        private boolean nextFate() {
            for (int i = events - 1; i >= 0; i--) {
                if (fate[i] == 0) {
                    fate[i] = 1;
                    return true;
                }
                fate[i] = 0;
            }
            return false;
        }

        private boolean happens(int what) {
            if (events >= MOST_EVENTS) {
                tooMany = true;
                return true;
            }
            sort[events] = what;
            events++;
            return fate[events - 1] != 0;
        }

        private void runOnce(Script script) {
            play.open(script, 0);
            play.terms.forget(ATOMS);
            Arrays.fill(came, 0);
            Arrays.fill(gone, 0);
            Arrays.fill(sureOf, NONE);
            events = 0;
            tooMany = false;
            for (int k = 0; k <= 4 * MOST_LINES && !tooMany; k++) {
                boolean moved = step(0);
                moved = step(1) || moved;
                if (!moved && !meet()) {
                    return;
                }
            }
        }

        /** One LINE of an END, if it is not one to wait at. */
        private boolean step(int end) {
            int line = play.lineOf(end);
            if (line == NONE) {
                return false;
            }
            int act = play.script.act[line];
            if (act == TAKE && nothingLies(end)) {
                return false;
            }
            int term = act == TAKE ? nextLying(end) : play.termOf(line, end);
            if (term == NONE || act == TAKE && !fits(play.script.root[line], term, end, 0)) {
                play.stopped[end] = 1;
                return false;
            }
            if (act == SHOW) {
                return false;
            }
            if (act == SURE) {
                sureOf[end] = term;
            } else if (act == SEND && !happens(LOST)) {
                lay(1 - end, term);
            }
            play.at[end]++;
            return true;
        }

        private void lay(int end, int term) {
            if (came[end] < MOST_LINES) {
                lying[end * MOST_LINES + came[end]] = term;
                came[end]++;
            }
        }

        private boolean nothingLies(int end) {
            return gone[end] >= came[end] || gone[end] >= MOST_LINES;
        }

        private int nextLying(int end) {
            if (nothingLies(end)) {
                return NONE;
            }
            gone[end]++;
            return lying[end * MOST_LINES + gone[end] - 1];
        }

        /** Whether a TERM is a LINE's, with what stands in the place of each FREE x put for it. */
        private boolean fits(int node, int term, int end, int depth) {
            Script script = play.script;
            if (script == null || node < 0 || node >= script.nodes || term < 0 || term >= play.terms.count
                    || depth > MOST_WORDS) {
                return false;
            }
            int kind = script.kind[node];
            int first = script.left[node];
            // What was not taken yet is FREE: no other x can be in a take.
            if (kind == X && first >= 0 && first < XS && play.took[XS * end + first] == NONE) {
                play.took[XS * end + first] = term;
                return true;
            }
            if (kind == PAIR || kind == SEAL) {
                return play.terms.kind[term] == kind
                        && fits(first, play.terms.left[term], end, depth + 1)
                        && fits(script.right[node], play.terms.right[term], end, depth + 1);
            }
            // Under a SUM or a RAISE nothing can be put for an x: without what stands ahead of it there is no TERM.
            return play.instance(script, node, end, 0) == term;
        }

        /** Whether both ENDS were at a show and went on. */
        private boolean meet() {
            if (play.actOf(0) != SHOW || play.actOf(1) != SHOW) {
                return false;
            }
            boolean alike = play.termOf(play.lineOf(0), 0) == play.termOf(play.lineOf(1), 1);
            if (happens(MISREAD) || !alike) {
                play.stopped[0] = 1;
                play.stopped[1] = 1;
                return false;
            }
            play.at[0]++;
            play.at[1]++;
            return true;
        }
    }

    /** The VOUCHED ones and the GROUP: what an IMAGE keeps. */
    private static final class Life {
        private final int[] from = new int[MOST_VOUCHED];
        private final int[] to = new int[MOST_VOUCHED];
        private final int[] reach = new int[MOST_VOUCHED];
        private final int[] day = new int[MOST_VOUCHED];
        private final int[] known = new int[MOST_VOUCHED];
        final int[] backDay = new int[MOST_VOUCHED];
        int vouched;
        int time;
        int comeRule;
        int goRule;
        /** Of each TIME, as bits: who is in; whose own secret SEALS its secret; 1, if that of the TIME before does. */
        final int[] members = new int[MOST_TIMES + 1];
        private final int[] sealedByOwn = new int[MOST_TIMES + 1];
        private final int[] sealedByBefore = new int[MOST_TIMES + 1];

        void copyFrom(Life other) {
            System.arraycopy(other.from, 0, from, 0, MOST_VOUCHED);
            System.arraycopy(other.to, 0, to, 0, MOST_VOUCHED);
            System.arraycopy(other.reach, 0, reach, 0, MOST_VOUCHED);
            System.arraycopy(other.day, 0, day, 0, MOST_VOUCHED);
            System.arraycopy(other.known, 0, known, 0, MOST_VOUCHED);
            System.arraycopy(other.backDay, 0, backDay, 0, MOST_VOUCHED);
            vouched = other.vouched;
            time = other.time;
            comeRule = other.comeRule;
            goRule = other.goRule;
            System.arraycopy(other.members, 0, members, 0, MOST_TIMES + 1);
            System.arraycopy(other.sealedByOwn, 0, sealedByOwn, 0, MOST_TIMES + 1);
            System.arraycopy(other.sealedByBefore, 0, sealedByBefore, 0, MOST_TIMES + 1);
        }

        int addVouched(int who, int whom, int howFar, int fromDay, int knownDay) {
            if (vouched >= MOST_VOUCHED) {
                return NONE;
            }
            from[vouched] = who;
            to[vouched] = whom;
            reach[vouched] = howFar;
            day[vouched] = fromDay;
            known[vouched] = knownDay;
            backDay[vouched] = NONE;
            vouched++;
            return vouched - 1;
        }

        private boolean stands(int vouch, int onDay, int asKnown) {
            boolean backThen = backDay[vouch] != NONE && backDay[vouch] <= onDay;
            return day[vouch] <= onDay && known[vouch] <= asKnown && !backThen;
        }

        /** Who vouches, so that so many follow, for one of these (as bits), with one VOUCHED left out. */
        private int ahead(int these, int follow, int onDay, int asKnown, int without) {
            int who = 0;
            for (int i = 0; i < vouched && i < MOST_VOUCHED; i++) {
                if (i != without && reach[i] >= follow && (these >> to[i] & 1) != 0 && stands(i, onDay, asKnown)) {
                    who |= 1 << from[i];
                }
            }
            return who;
        }

        int steps(int one, int other, int onDay, int asKnown) {
            int these = 1 << other;
            for (int steps = 0; steps <= MOST_REACH + 1; steps++) {
                if ((these >> one & 1) != 0) {
                    return steps;
                }
                these = ahead(these, steps, onDay, asKnown, NONE);
            }
            return NONE;
        }

        /** Who is SURE of one, as bits, with one VOUCHED left out. */
        private int sureOnes(int other, int onDay, int asKnown, int without) {
            int these = 1 << other;
            int all = these;
            for (int follow = 0; follow <= MOST_REACH; follow++) {
                these = ahead(these, follow, onDay, asKnown, without);
                all |= these;
            }
            return all;
        }

        int hanging(int vouch, int onDay, int asKnown) {
            int pairs = 0;
            for (int other = 0; other < PEOPLE; other++) {
                int with = sureOnes(other, onDay, asKnown, NONE);
                int without = sureOnes(other, onDay, asKnown, vouch);
                pairs += Integer.bitCount(with & ~without);
            }
            return pairs;
        }

        boolean isIn(int one) {
            return time >= 0 && time <= MOST_TIMES && (members[time] >> one & 1) != 0;
        }

        /** The next TIME, with other members; by rule 1 only newcomers' own secrets SEAL its secret. */
        int nextTime(int changed, boolean ruleNought, int newcomers) {
            if (time < 0 || time >= MOST_TIMES) {
                return NONE;
            }
            time++;
            members[time] = members[time - 1] ^ changed;
            sealedByOwn[time] = ruleNought ? members[time] : newcomers;
            sealedByBefore[time] = ruleNought || time == 1 ? 0 : 1;
            return time;
        }

        /** Who can MAKE the secret of a TIME: SEALS lead from a TIME to the next alone. */
        int holders(int ofTime) {
            int who = 0;
            for (int i = 1; i <= ofTime && i <= MOST_TIMES; i++) {
                who = sealedByOwn[i] | (sealedByBefore[i] != 0 ? who : 0);
            }
            return who;
        }
    }
}
