import java.util.Arrays;

/** Loads unseen: who sends how much to whom in a net, told from what its lines carry alone. */
public final class LoadsUnseen {
    public static final int BAD = -1, FULL = -2, FINDING = -3, STATE = -4, SPENT = -6, NONE = -9;

    private static final int NOTHING = 1, BEYOND = 2, UNLIKE = 3, NOUGHT = 4, SIZE = 5;
    private static final int COUNTED = 1, METERED = 2, DARK = 3;
    private static final int FEWEST_KNOTS = 2, MOST_KNOTS = 6, MOST_LINES = 12;
    private static final int PAIR_PLACES = 36, LONGEST_ROUTE = 5, HOURS = 24;
    private static final int MOST_LOAD = 200, FIRST_RATE = 100, MOST_RATE = 60000, MOST_TRIES = 20000;
    private static final int MOST_SHEETS = 4, SHEET_ROOM = 24, LAID = 1000, CUT = -1, MISSING = -1;

    private final Net net = new Net();
    private final Routes now = new Routes();
    private final Routes then = new Routes();
    private final Seeker seeker = new Seeker(net, now);
    private final Tally tally = new Tally();
    private final Range range = new Range();
    private final Fewest fewest = new Fewest(net.bases);
    private final Heaviest heaviest = new Heaviest();
    private final Sheets sheets = new Sheets();
    private final int[] latestFit = new int[PAIR_PLACES];
    private boolean hasFit = false;
    private int latestTries = 0;
    private long latestAsked = 0;
    private int latestFinding = 0;
    private final int[] timesFound = new int[SIZE + 1];

    public LoadsUnseen() {
        now.find(net, NONE);
    }

    // ---- 1 the net, readings

    public int net(int k) {
        if (k < FEWEST_KNOTS || k > MOST_KNOTS) return BAD;
        net.begin(k);
        now.find(net, NONE);
        hasFit = false;
        return k;
    }

    public int line(int kind, int from, int to) {
        if (kind < 0 || kind > DARK || !net.isPair(from, to)) return BAD;
        if (net.lineCount >= MOST_LINES) return FULL;
        int number = net.addLine(kind, from, to);
        now.find(net, NONE);
        return number;
    }

    public int told(int line, int what) {
        if (!net.isLine(line)) return BAD;
        Line asked = net.lines[line];
        switch (what) {
            case 0: return asked.kind;
            case 1: return asked.from;
            case 2: return asked.to;
            case 3: return asked.isDown ? 1 : 0;
            case 4: return asked.load;
            case 5: return asked.most;
            default: return BAD;
        }
    }

    public int mark(int line, int kind) {
        if (!net.isLine(line) || kind < COUNTED || kind > DARK) return BAD;
        Line asked = net.lines[line];
        if (!asked.isOf(kind)) return found(UNLIKE);
        if (kind == COUNTED) return asked.counterSize();
        if (kind == METERED) return asked.readingsKept();
        return now.pairsOn(line);
    }

    public int down(int line, boolean is) {
        if (!net.isLine(line)) return BAD;
        boolean was = net.lines[line].isDown;
        net.lines[line].isDown = is;
        now.find(net, NONE);
        return was ? 1 : 0;
    }

    public int rate(int line, int r) {
        if (!net.isLine(line) || r < 0 || r > MOST_RATE) return BAD;
        int was = net.lines[line].most;
        net.lines[line].most = r;
        return was;
    }

    public int reading(int line, int hour, int v) {
        if (!net.isLine(line) || (v < 0 && v != NONE)) return BAD;
        Line read = net.lines[line];
        if (!read.isOf(COUNTED)) return found(UNLIKE);
        if (!isHour(hour)) return found(BEYOND);
        int was = read.readings[hour];
        read.keepReading(hour, v);
        return was;
    }

    public int load(int line, int i, int j) {
        if (!net.isLine(line)) return BAD;
        Line read = net.lines[line];
        if (!read.isOf(COUNTED)) return found(UNLIKE);
        if (!isHour(i) || !isHour(j) || i >= j) return found(BEYOND);
        if (read.readings[i] == NONE || read.readings[j] == NONE) return found(NOTHING);
        latestAsked = read.loadBetween(i, j);
        return read.isSureBetween(i, j) ? 1 : 0;
    }

    public int mean(int line) {
        if (!net.isLine(line)) return BAD;
        Line read = net.lines[line];
        if (!read.isOf(COUNTED)) return found(UNLIKE);
        if (read.readingsKept() < 2) return found(NOUGHT);
        return read.meanLoad();
    }

    public int route(int a, int b, int i) {
        if (!net.isPair(a, b)) return BAD;
        int pair = net.pairNumber(a, b);
        int length = now.lengths[pair];
        if (length == CUT) return NONE;
        if (i == -1) return length;
        return i >= 0 && i < length ? now.lineAt(pair, i) : NONE;
    }

    // ---- 2 fits

    public int carried(int line, int v) {
        if (!net.isLine(line) || !isLoadOrNone(v)) return BAD;
        Line asked = net.lines[line];
        if (asked.isOf(DARK)) return found(UNLIKE);
        int was = asked.load;
        asked.load = v;
        return was;
    }

    public int meter(int a, int b, int v) {
        if (!net.isPair(a, b) || !isLoadOrNone(v)) return BAD;
        int pair = net.pairNumber(a, b);
        int was = net.meters[pair];
        net.meters[pair] = v;
        return was;
    }

    public int fits(int n) {
        if (!isTries(n)) return BAD;
        hasFit = false;
        tally.begin(1);
        if (!seekAll(tally, n)) return SPENT;
        if (tally.fits == 0) return 0;
        keepFit(tally.first);
        return 1;
    }

    public int fit(int a, int b) {
        if (!net.isPair(a, b)) return BAD;
        return hasFit ? latestFit[net.pairNumber(a, b)] : NONE;
    }

    public int many(int n) {
        if (!isTries(n)) return BAD;
        tally.begin(Integer.MAX_VALUE);
        if (!seekAll(tally, n)) return SPENT;
        latestAsked = tally.fits;
        return 1;
    }

    public int bound(int a, int b, boolean most, int n) {
        if (!net.isPair(a, b) || !isTries(n)) return BAD;
        range.begin();
        if (!seekAll(range, n)) return SPENT;
        if (!range.any) return NONE;
        int pair = net.pairNumber(a, b);
        return most ? range.most[pair] : range.least[pair];
    }

    public int sure(int n) {
        if (!isTries(n)) return BAD;
        range.begin();
        if (!seekAll(range, n)) return SPENT;
        return range.any ? surePairs() : NONE;
    }

    public int tries() {
        return latestTries;
    }

    public int guess(int a, int b) {
        if (!net.isPair(a, b)) return BAD;
        int all = net.allCarried();
        if (all == 0) return found(NOUGHT);
        return net.carriedFrom(a) * net.carriedTo(b) / all;
    }

    // ---- 3 changes, failures, meters

    public int base(int a, int b, int v) {
        if (!net.isPair(a, b) || v < 0 || v > MOST_LOAD) return BAD;
        int pair = net.pairNumber(a, b);
        int was = net.bases[pair];
        net.bases[pair] = v;
        return was;
    }

    public int changed(int n) {
        if (!isTries(n)) return BAD;
        fewest.begin();
        if (!seekBest(fewest, n)) return SPENT;
        return fewest.any ? fewest.cost : NONE;
    }

    public int worst(int line, int other, int n) {
        if (!net.isLine(line) || !net.isLine(other) || line == other || !isTries(n)) return BAD;
        if (net.lines[line].isDown || net.lines[other].isDown) return STATE;
        then.find(net, other);
        heaviest.beginOn(line, then);
        if (!seekBest(heaviest, n)) return SPENT;
        return heaviest.any ? -heaviest.cost : NONE;
    }

    public int meters(int n) {
        if (!isTries(n)) return BAD;
        tally.begin(1);
        if (!seekAll(tally, n)) return SPENT;
        if (tally.fits == 0) return NONE;
        long bits = seeker.fewestMeters(tally);
        latestTries = seeker.tries;
        if (seeker.spent) return SPENT;
        latestAsked = bits;
        return Long.bitCount(bits);
    }

    // ---- 4 sheets

    public int sheet(int s, int n) {
        if (!isSheet(s) || n > SHEET_ROOM) return BAD;
        if (n < 0) return found(SIZE);
        sheets.put(s, n);
        return n;
    }

    public int lay(int s, int i, int v) {
        if (!isSheet(s)) return BAD;
        if (sheets.sizes[s] == MISSING) return found(NOTHING);
        if (i < 0 || i >= sheets.sizes[s]) return found(BEYOND);
        int was = sheets.bytes[s][i];
        sheets.bytes[s][i] = (byte) v;
        return was + LAID;
    }

    public int play(int s, int line) {
        if (!isSheet(s) || !net.isLine(line)) return BAD;
        Line read = net.lines[line];
        if (!read.isOf(COUNTED)) return found(UNLIKE);
        if (sheets.sizes[s] == MISSING) return found(NOTHING);
        for (int hour = 0; hour < sheets.sizes[s]; hour++) read.keepReading(hour, sheets.bytes[s][hour] & 255);
        return sheets.sizes[s];
    }

    public int tear(int s) {
        if (!isSheet(s)) return BAD;
        if (sheets.sizes[s] == MISSING) return found(NOTHING);
        sheets.sizes[s] = MISSING;
        return 1;
    }

    public int copy(int s, int i, int to, int j, int n) {
        if (!isSheet(s) || !isSheet(to)) return BAD;
        if (n < 0) return found(SIZE);
        if (sheets.sizes[s] == MISSING || sheets.sizes[to] == MISSING) return found(NOTHING);
        if (!sheets.hasRun(s, i, n) || !sheets.hasRun(to, j, n)) return found(BEYOND);
        System.arraycopy(sheets.bytes[s], i, sheets.bytes[to], j, n);
        return 1;
    }

    // ---- 5 what is told

    public long asked() {
        return latestAsked;
    }

    public int count(int what) {
        switch (what) {
            case 0: return net.knots;
            case 1: return net.lineCount;
            case 2: return net.linesTold();
            case 3: return net.pairsMetered();
            case 4: return now.pairsCut();
            default: return BAD;
        }
    }

    public int finding() {
        return latestFinding;
    }

    public int findings(int f) {
        return f >= NOTHING && f <= SIZE ? timesFound[f] : BAD;
    }

    public long digest() {
        long h = 17;
        for (int what = 0; what <= 4; what++) h = 31 * h + count(what);
        for (int line = 0; line < net.lineCount; line++) h = digestLine(h, line);
        for (int a = 0; a < net.knots; a++) {
            for (int b = 0; b < net.knots; b++) {
                if (a == b) continue;
                int pair = net.pairNumber(a, b);
                h = 31 * h + net.meters[pair];
                h = 31 * h + net.bases[pair];
            }
        }
        for (int s = 0; s < MOST_SHEETS; s++) h = digestSheet(h, s);
        return h;
    }

    // ---- what the calls share

    private static boolean isHour(int hour) {
        return hour >= 0 && hour < HOURS;
    }

    private static boolean isLoadOrNone(int v) {
        return v == NONE || (v >= 0 && v <= MOST_LOAD);
    }

    private static boolean isTries(int n) {
        return n >= 1 && n <= MOST_TRIES;
    }

    private static boolean isSheet(int s) {
        return s >= 0 && s < MOST_SHEETS;
    }

    private int found(int which) {
        latestFinding = which;
        timesFound[which]++;
        return FINDING;
    }

    /** Whether the TRIES were enough. */
    private boolean seekAll(Goal goal, int n) {
        seeker.begin(n);
        seeker.seek(goal);
        latestTries = seeker.tries;
        return !seeker.spent;
    }

    /** Whether the TRIES were enough; a FIT that is the best only so far is not told. */
    private boolean seekBest(Best goal, int n) {
        hasFit = false;
        if (!seekAll(goal, n)) return false;
        if (goal.any) keepFit(goal.kept);
        return true;
    }

    private void keepFit(int[] fit) {
        System.arraycopy(fit, 0, latestFit, 0, PAIR_PLACES);
        hasFit = true;
    }

    private int surePairs() {
        int sum = 0;
        for (int pair = 0; pair < now.places; pair++) {
            if (now.isRouted(pair) && range.least[pair] == range.most[pair]) sum++;
        }
        return sum;
    }

    private long digestLine(long before, int line) {
        long h = before;
        for (int what = 0; what <= 5; what++) h = 31 * h + told(line, what);
        if (!net.lines[line].isOf(COUNTED)) return h;
        for (int hour = 0; hour < HOURS; hour++) h = 31 * h + net.lines[line].readings[hour];
        return h;
    }

    private long digestSheet(long before, int s) {
        long h = 31 * before + sheets.sizes[s];
        for (int i = 0; i < sheets.sizes[s]; i++) h = 31 * h + sheets.bytes[s][i];
        return h;
    }

    /** A LINE of any KIND; readings are used by those that have a counter alone. */
    private static final class Line {
        int kind = 0;
        int from = 0;
        int to = 0;
        boolean isDown = false;
        int most = FIRST_RATE;
        int load = NONE;
        final int[] readings = new int[HOURS];

        void begin(int newKind, int newFrom, int newTo) {
            kind = newKind;
            from = newFrom;
            to = newTo;
            isDown = false;
            most = FIRST_RATE;
            load = NONE;
            Arrays.fill(readings, NONE);
        }

        boolean isOf(int asked) {
            return kind == asked || (asked == COUNTED && kind == METERED);
        }

        int counterSize() {
            return kind == METERED ? 65536 : 256;
        }

        void keepReading(int hour, int v) {
            readings[hour] = v == NONE ? NONE : cutToCounter(v);
        }

        // The sizes are powers of two, so the mask also turns a difference below 0 into one wrap.
        private int cutToCounter(int v) {
            return v & (counterSize() - 1);
        }

        int readingsKept() {
            int sum = 0;
            for (int hour = 0; hour < HOURS; hour++) if (readings[hour] != NONE) sum++;
            return sum;
        }

        int loadBetween(int i, int j) {
            return cutToCounter(readings[j] - readings[i]);
        }

        boolean isSureBetween(int i, int j) {
            return most * (j - i) < counterSize();
        }

        int meanLoad() {
            int first = NONE;
            int before = NONE;
            int sum = 0;
            for (int hour = 0; hour < HOURS; hour++) {
                if (readings[hour] == NONE) continue;
                if (before == NONE) first = hour;
                else sum += loadBetween(before, hour);
                before = hour;
            }
            int hours = before - first;
            return hours > 0 ? sum / hours : 0;
        }
    }

    /** KNOTS, LINES, and what is told of PAIRS. */
    private static final class Net {
        int knots = FEWEST_KNOTS;
        int lineCount = 0;
        final Line[] lines = new Line[MOST_LINES];
        final int[] meters = new int[PAIR_PLACES];
        final int[] bases = new int[PAIR_PLACES];

        Net() {
            for (int line = 0; line < MOST_LINES; line++) lines[line] = new Line();
            Arrays.fill(meters, NONE);
        }

        void begin(int k) {
            knots = k;
            lineCount = 0;
            Arrays.fill(meters, NONE);
            Arrays.fill(bases, 0);
        }

        int addLine(int kind, int from, int to) {
            lines[lineCount].begin(kind, from, to);
            lineCount++;
            return lineCount - 1;
        }

        boolean isLine(int line) {
            return line >= 0 && line < lineCount;
        }

        boolean isPair(int a, int b) {
            return a >= 0 && a < knots && b >= 0 && b < knots && a != b;
        }

        int pairNumber(int a, int b) {
            return a * knots + b;
        }

        int linesTold() {
            int sum = 0;
            for (int line = 0; line < lineCount; line++) if (lines[line].load != NONE) sum++;
            return sum;
        }

        int pairsMetered() {
            int sum = 0;
            for (int pair = 0; pair < PAIR_PLACES; pair++) if (meters[pair] != NONE) sum++;
            return sum;
        }

        int carriedFrom(int a) {
            int sum = 0;
            for (int line = 0; line < lineCount; line++) {
                if (lines[line].from == a && lines[line].load != NONE) sum += lines[line].load;
            }
            return sum;
        }

        int carriedTo(int b) {
            int sum = 0;
            for (int line = 0; line < lineCount; line++) {
                if (lines[line].to == b && lines[line].load != NONE) sum += lines[line].load;
            }
            return sum;
        }

        int allCarried() {
            int sum = 0;
            for (int a = 0; a < knots; a++) sum += carriedFrom(a);
            return sum;
        }
    }

    /** THE ROUTE of each PAIR; places of a KNOT with itself have length 0, so that no loop over PAIRS minds them. */
    private static final class Routes {
        int places = 0;
        final int[] lengths = new int[PAIR_PLACES];
        final int[] steps = new int[PAIR_PLACES * LONGEST_ROUTE];
        private final int[] away = new int[MOST_KNOTS];

        void find(Net net, int without) {
            places = net.knots * net.knots;
            for (int b = 0; b < net.knots; b++) {
                measure(net, without, b);
                for (int a = 0; a < net.knots; a++) walk(net, without, a, net.pairNumber(a, b));
            }
        }

        boolean isRouted(int pair) {
            return lengths[pair] > 0;
        }

        int lineAt(int pair, int place) {
            return steps[pair * LONGEST_ROUTE + place];
        }

        boolean goesBy(int pair, int line) {
            for (int place = 0; place < lengths[pair]; place++) if (lineAt(pair, place) == line) return true;
            return false;
        }

        int pairsOn(int line) {
            int sum = 0;
            for (int pair = 0; pair < places; pair++) if (goesBy(pair, line)) sum++;
            return sum;
        }

        int pairsCut() {
            int sum = 0;
            for (int pair = 0; pair < places; pair++) if (lengths[pair] == CUT) sum++;
            return sum;
        }

        // As many rounds as there are KNOTS are enough: no shortest row has a KNOT twice.
        private void measure(Net net, int without, int b) {
            Arrays.fill(away, MOST_KNOTS);
            away[b] = 0;
            for (int round = 0; round < net.knots; round++) {
                for (int line = 0; line < net.lineCount; line++) {
                    if (isShut(net, without, line)) continue;
                    int from = net.lines[line].from;
                    away[from] = Math.min(away[from], away[net.lines[line].to] + 1);
                }
            }
        }

        private static boolean isShut(Net net, int without, int line) {
            return line == without || net.lines[line].isDown;
        }

        // The least LINE that comes nearer, step by step, is the first of all shortest rows.
        private void walk(Net net, int without, int a, int pair) {
            lengths[pair] = away[a] < MOST_KNOTS ? away[a] : CUT;
            int knot = a;
            for (int place = 0; place < lengths[pair]; place++) {
                for (int line = 0; line < net.lineCount; line++) {
                    if (isShut(net, without, line) || net.lines[line].from != knot) continue;
                    if (away[net.lines[line].to] != away[knot] - 1) continue;
                    steps[pair * LONGEST_ROUTE + place] = line;
                    knot = net.lines[line].to;
                    break;
                }
            }
        }
    }

    /** SEEKING, with its TRIES counted over one SEEKING behind the other. */
    private static final class Seeker {
        private final Net net;
        private final Routes routes;
        private final int[] order = new int[PAIR_PLACES];
        private final int[] free = new int[PAIR_PLACES];
        private final int[] lastPlace = new int[MOST_LINES];
        private final int[] left = new int[MOST_LINES];
        private final int[] fixed = new int[PAIR_PLACES];
        private final int[] numbers = new int[PAIR_PLACES];
        private int sought = 0;
        private int limit = 0;
        int tries = 0;
        boolean spent = false;

        Seeker(Net net, Routes routes) {
            this.net = net;
            this.routes = routes;
        }

        void begin(int n) {
            limit = n;
            tries = 0;
            spent = false;
            sought = 0;
            Arrays.fill(numbers, 0);
            System.arraycopy(net.meters, 0, fixed, 0, PAIR_PLACES);
            for (int line = 0; line < net.lineCount; line++) {
                left[line] = net.lines[line].load;
                lastPlace[line] = NONE;
            }
            for (int pair = 0; pair < routes.places; pair++) if (isSought(pair)) addSought(pair);
        }

        void seek(Goal goal) {
            goesOn(0, goal);
        }

        /**
         * METERS as bits, behind a SEEKING of THE FIRST FIT; worth nothing if it is spent. The tally keeps that FIT
         * all along: with PAIRS METERED as in it, it is still the first that SEEKING meets.
         */
        long fewestMeters(Tally tally) {
            int frees = findFree();
            long end = 1L << frees;
            for (int size = 0; size <= frees; size++) {
                long set = (1L << size) - 1;
                // Each set but the empty one takes a TRY at least, so SEEKING is spent ahead of this bound.
                for (int tried = 0; tried <= MOST_TRIES && set < end; tried++) {
                    fix(set, frees, tally.first);
                    tally.begin(2);
                    seek(tally);
                    if (spent) return 0;
                    if (tally.fits == 1) return bitsOf(set, frees);
                    set = nextSet(set);
                }
            }
            return 0;
        }

        private boolean isSought(int pair) {
            if (!routes.isRouted(pair)) return false;
            if (fixed[pair] != NONE) return true;
            for (int place = 0; place < routes.lengths[pair]; place++) {
                if (left[routes.lineAt(pair, place)] != NONE) return true;
            }
            return false;
        }

        private void addSought(int pair) {
            order[sought] = pair;
            for (int place = 0; place < routes.lengths[pair]; place++) lastPlace[routes.lineAt(pair, place)] = sought;
            sought++;
        }

        /** Whether SEEKING goes on: neither spent, nor has the goal enough. The depth is a place among those sought. */
        private boolean goesOn(int depth, Goal goal) {
            if (depth >= sought) return !isNothingLeft() || !goal.hasEnough(numbers);
            int pair = order[depth];
            int least = leastNumber(depth, pair);
            int most = mostNumber(pair);
            for (int number = least; number <= most; number++) {
                if (tries >= limit) {
                    spent = true;
                    return false;
                }
                tries++;
                numbers[pair] = number;
                take(pair, number);
                boolean on = goesOn(depth + 1, goal);
                take(pair, -number);
                if (!on) return false;
            }
            return true;
        }

        private int leastNumber(int depth, int pair) {
            int least = Math.max(fixed[pair], 0);
            for (int place = 0; place < routes.lengths[pair]; place++) {
                int line = routes.lineAt(pair, place);
                if (left[line] != NONE && lastPlace[line] == depth) least = Math.max(least, left[line]);
            }
            return least;
        }

        private int mostNumber(int pair) {
            int most = fixed[pair] != NONE ? fixed[pair] : MOST_LOAD;
            for (int place = 0; place < routes.lengths[pair]; place++) {
                int line = routes.lineAt(pair, place);
                if (left[line] != NONE) most = Math.min(most, left[line]);
            }
            return most;
        }

        private void take(int pair, int number) {
            for (int place = 0; place < routes.lengths[pair]; place++) {
                int line = routes.lineAt(pair, place);
                if (left[line] != NONE) left[line] -= number;
            }
        }

        private boolean isNothingLeft() {
            for (int line = 0; line < net.lineCount; line++) if (left[line] > 0) return false;
            return true;
        }

        private int findFree() {
            int frees = 0;
            for (int place = 0; place < sought; place++) {
                if (net.meters[order[place]] != NONE) continue;
                free[frees] = order[place];
                frees++;
            }
            return frees;
        }

        private void fix(long set, int frees, int[] first) {
            for (int i = 0; i < frees; i++) fixed[free[i]] = (set >> i & 1) == 1 ? first[free[i]] : NONE;
        }

        // PAIRS that are free stand in the order of their numbers, so sets of them and bits go up together.
        private long bitsOf(long set, int frees) {
            long bits = 0;
            for (int i = 0; i < frees; i++) if ((set >> i & 1) == 1) bits |= 1L << free[i];
            return bits;
        }

        /** The next greater number with as many bits; behind the empty set there is none. */
        private static long nextSet(long set) {
            if (set == 0) return Long.MAX_VALUE;
            long lowest = set & -set;
            long raised = set + lowest;
            return raised | (set ^ raised) >>> (2 + Long.numberOfTrailingZeros(lowest));
        }
    }

    /** What is made of the FITS that SEEKING meets. */
    private abstract static class Goal {
        abstract boolean hasEnough(int[] fit);
    }

    /** How many FITS there are, up to so many; THE FIRST one is kept. */
    private static final class Tally extends Goal {
        final int[] first = new int[PAIR_PLACES];
        int fits = 0;
        private int enough = 0;

        void begin(int newEnough) {
            fits = 0;
            enough = newEnough;
        }

        boolean hasEnough(int[] fit) {
            if (fits == 0) System.arraycopy(fit, 0, first, 0, PAIR_PLACES);
            fits++;
            return fits >= enough;
        }
    }

    /** LEAST and MOST of each PAIR. */
    private static final class Range extends Goal {
        final int[] least = new int[PAIR_PLACES];
        final int[] most = new int[PAIR_PLACES];
        boolean any = false;

        void begin() {
            any = false;
            Arrays.fill(least, MOST_LOAD);
            Arrays.fill(most, 0);
        }

        boolean hasEnough(int[] fit) {
            any = true;
            for (int pair = 0; pair < PAIR_PLACES; pair++) {
                least[pair] = Math.min(least[pair], fit[pair]);
                most[pair] = Math.max(most[pair], fit[pair]);
            }
            return false;
        }
    }

    /** The first FIT of those that cost the least. */
    private abstract static class Best extends Goal {
        final int[] kept = new int[PAIR_PLACES];
        boolean any = false;
        int cost = 0;

        abstract int costOf(int[] fit);

        void begin() {
            any = false;
            cost = 0;
        }

        boolean hasEnough(int[] fit) {
            int its = costOf(fit);
            if (any && its >= cost) return false;
            any = true;
            cost = its;
            System.arraycopy(fit, 0, kept, 0, PAIR_PLACES);
            return false;
        }
    }

    /** CHANGED: it costs how many PAIRS are another number than in the BASE. */
    private static final class Fewest extends Best {
        private final int[] bases;

        Fewest(int[] bases) {
            this.bases = bases;
        }

        int costOf(int[] fit) {
            int sum = 0;
            for (int pair = 0; pair < PAIR_PLACES; pair++) if (fit[pair] != bases[pair]) sum++;
            return sum;
        }
    }

    /** WORST: what a LINE carries then, below 0, so that the most costs the least. */
    private static final class Heaviest extends Best {
        private final boolean[] goesThere = new boolean[PAIR_PLACES];

        void beginOn(int line, Routes then) {
            begin();
            for (int pair = 0; pair < PAIR_PLACES; pair++) {
                goesThere[pair] = pair < then.places && then.goesBy(pair, line);
            }
        }

        int costOf(int[] fit) {
            int sum = 0;
            for (int pair = 0; pair < PAIR_PLACES; pair++) if (goesThere[pair]) sum += fit[pair];
            return -sum;
        }
    }

    /** SHEETS of bytes: the rows are made once, a size tells how much of a row is there. */
    private static final class Sheets {
        final byte[][] bytes = new byte[MOST_SHEETS][SHEET_ROOM];
        final int[] sizes = new int[MOST_SHEETS];

        Sheets() {
            Arrays.fill(sizes, MISSING);
        }

        void put(int s, int n) {
            sizes[s] = n;
            Arrays.fill(bytes[s], (byte) 0);
        }

        boolean hasRun(int s, int i, int n) {
            return i >= 0 && i <= sizes[s] - n;
        }
    }
}
