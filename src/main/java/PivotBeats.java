/**
 * Sections of a piece whose tempos are tied by note values, marks on a metronome for them,
 * the clock of the piece, and pivots from a tempo to another one.
 *
 * Every number of TICKS is a product of twos and threes, so a RATIO is held as two exponents:
 * sums and differences of small ints are exact, and no share ever has to be reduced.
 */
public final class PivotBeats {
    public static final int UNKNOWN = -1, OUTSIDE = -2, STATE = -3, FULL = -4, NONE = -9;

    private static final int MOST_SECTIONS = 7, MOST_TIES = 12, MOST_MARKS = 16;
    private static final int MOST_BEATS = 99, MOST_EAR = 9;
    private static final int VALUES = 20, ALL_VALUES = 1048575, LAST_TWO = 399;
    private static final int SLOWEST = 20, FASTEST = 400, FIRST_START = 60;
    // 2 to the 9 is beyond the fastest TEMPO.
    private static final int MOST_FACTORS = 9;
    private static final int LAST_MOMENT = 100000000;
    private static final long MINUTE = 60000L;
    private static final int KEPT = 0, SPARE = 1, CLASHES = 2;

    /** By VALUE: its TICKS, and how often 2 and 3 are in them. */
    private static final int[] TICKS = {
        96, 64, 144, 96, 48, 32, 72, 48, 24, 16, 36, 24, 12, 8, 18, 12, 6, 4, 9, 6};
    private static final int[] TWOS = {
        5, 6, 4, 5, 4, 5, 3, 4, 3, 4, 2, 3, 2, 3, 1, 2, 1, 2, 0, 1};
    private static final int[] THREES = {
        1, 0, 2, 1, 1, 0, 2, 1, 1, 0, 2, 1, 1, 0, 2, 1, 1, 0, 2, 1};

    private final Piece piece;
    private final Joins joins;
    private final Metronome metronome;
    private final BestPlay best;
    private final PivotRow pivotRow;
    private int startTempo;

    public PivotBeats() {
        piece = new Piece();
        joins = new Joins();
        metronome = new Metronome();
        best = new BestPlay();
        pivotRow = new PivotRow();
        startTempo = FIRST_START;
    }

    // ---- 1 sections, ties

    public int section(int beats) {
        if (!isBeats(beats)) {
            return OUTSIDE;
        }
        if (piece.sections >= MOST_SECTIONS) {
            return FULL;
        }
        int s = piece.addSection(beats);
        tiesChanged();
        return s;
    }

    public int beats(int s, int v) {
        if (!isSection(s)) {
            return UNKNOWN;
        }
        if (!isBeats(v)) {
            return OUTSIDE;
        }
        int was = piece.beatsOf[s];
        piece.beatsOf[s] = v;
        return was;
    }

    public int start(int v) {
        if (!isWholeTempo(v)) {
            return OUTSIDE;
        }
        int was = startTempo;
        startTempo = v;
        return was;
    }

    public int tie(int a, int v, int b, int w, int ear) {
        if (!isSection(a) || !isSection(b) || a == b || !isValue(v) || !isValue(w)) {
            return UNKNOWN;
        }
        if (!isEar(ear)) {
            return OUTSIDE;
        }
        if (piece.ties >= MOST_TIES) {
            return FULL;
        }
        int k = piece.addTie(a, v, b, w, ear);
        tiesChanged();
        return k;
    }

    public int ear(int k, int v) {
        if (!isTie(k)) {
            return UNKNOWN;
        }
        if (!isEar(v)) {
            return OUTSIDE;
        }
        int was = piece.ears[k];
        piece.ears[k] = v;
        best.forget();
        return was;
    }

    public int untie(int k) {
        if (!isTie(k)) {
            return UNKNOWN;
        }
        piece.removeTie(k);
        tiesChanged();
        return piece.ties;
    }

    public int clear() {
        int were = piece.ties;
        piece.sections = 0;
        piece.ties = 0;
        tiesChanged();
        return were;
    }

    public int ticks(int v) {
        return isValue(v) ? TICKS[v] : UNKNOWN;
    }

    public int ofSection(int s, int what) {
        if (!isSection(s)) {
            return UNKNOWN;
        }
        switch (what) {
            case 0: return piece.beatsOf[s];
            case 1: return piece.tiesAt(s);
            case 2: return joins.sizeOfSet(s, piece.sections);
            case 3: return joins.least[s];
            case 4: return piece.pins[s];
            case 5: return pinHolds(s) ? 1 : 0;
            default: return OUTSIDE;
        }
    }

    public int ofTie(int k, int what) {
        if (!isTie(k)) {
            return UNKNOWN;
        }
        switch (what) {
            case 0: return piece.from[k];
            case 1: return piece.fromValue[k];
            case 2: return piece.to[k];
            case 3: return piece.toValue[k];
            case 4: return piece.ears[k];
            case 5: return joins.kinds[k];
            default: return OUTSIDE;
        }
    }

    // ---- 2 ratios, rings

    public long tempo(int s, int which) {
        if (!isSection(s)) {
            return UNKNOWN;
        }
        if (!isWhich(which)) {
            return OUTSIDE;
        }
        return joins.isPlayed(s) ? tempoPart(s, which) : NONE;
    }

    public long ratio(int a, int b, int which) {
        if (!isSection(a) || !isSection(b)) {
            return UNKNOWN;
        }
        if (!isWhich(which)) {
            return OUTSIDE;
        }
        if (joins.least[a] != joins.least[b]) {
            return NONE;
        }
        return part(1L, joins.twosBetween(a, b), joins.threesBetween(a, b), which);
    }

    public long off(int k, int which) {
        if (!isTie(k)) {
            return UNKNOWN;
        }
        if (!isWhich(which)) {
            return OUTSIDE;
        }
        if (joins.kinds[k] == KEPT) {
            return NONE;
        }
        int twos = joins.twosBetween(piece.from[k], piece.to[k]) - piece.twosOfTie(k);
        int threes = joins.threesBetween(piece.from[k], piece.to[k]) - piece.threesOfTie(k);
        return part(1L, twos, threes, which);
    }

    public int ring(int k) {
        if (!isTie(k)) {
            return UNKNOWN;
        }
        if (joins.kinds[k] == KEPT) {
            return NONE;
        }
        return joins.routeBetween(piece.from[k], piece.to[k]) | (1 << k);
    }

    // ---- 3 marks, plays

    public int mark(int m, boolean is) {
        if (!isWholeTempo(m)) {
            return OUTSIDE;
        }
        if (metronome.has(m) == is) {
            return 0;
        }
        if (is && metronome.count >= MOST_MARKS) {
            return FULL;
        }
        if (is) {
            metronome.put(m);
        } else {
            metronome.take(m);
        }
        best.forget();
        return 1;
    }

    public int markAt(int k) {
        if (k < 0 || k >= MOST_MARKS) {
            return OUTSIDE;
        }
        return k < metronome.count ? metronome.marks[k] : NONE;
    }

    public int nearest(int s) {
        if (!isSection(s)) {
            return UNKNOWN;
        }
        return nearestMark(s);
    }

    public long away(int s, int which) {
        if (!isSection(s)) {
            return UNKNOWN;
        }
        if (!isWhich(which)) {
            return OUTSIDE;
        }
        int m = nearestMark(s);
        if (m == NONE) {
            return NONE;
        }
        // A whole number taken from a share in least terms leaves it in least terms.
        long lower = tempoPart(s, 1);
        return which == 1 ? lower : Math.abs(tempoPart(s, 0) - m * lower);
    }

    public int pin(int s, int m) {
        if (!isSection(s)) {
            return UNKNOWN;
        }
        if (m != NONE && !isWholeTempo(m)) {
            return OUTSIDE;
        }
        int was = piece.pins[s];
        piece.pins[s] = m;
        best.forget();
        return was;
    }

    public int harm() {
        best.find(piece, joins, metronome);
        return best.leastHarm;
    }

    public int play(int s) {
        if (!isSection(s)) {
            return UNKNOWN;
        }
        best.find(piece, joins, metronome);
        return best.chosen[s];
    }

    public int drift(int k) {
        if (!isTie(k)) {
            return UNKNOWN;
        }
        best.find(piece, joins, metronome);
        int a = best.chosen[piece.from[k]];
        int b = best.chosen[piece.to[k]];
        return a == NONE || b == NONE ? NONE : piece.driftBy(k, a, b);
    }

    // ---- 4 the clock, pivots

    public long clock(int s, int what) {
        if (!isSection(s)) {
            return UNKNOWN;
        }
        if (what != 0 && what != 1) {
            return OUTSIDE;
        }
        if (!joins.isPlayed(s)) {
            return NONE;
        }
        return what == 1 ? lasting(s, startTempo) : lastingUpTo(s, startTempo);
    }

    public long whole() {
        return lastingUpTo(piece.sections, startTempo);
    }

    public int where(int t, int what) {
        if (!isMoment(t) || (what != 0 && what != 1)) {
            return OUTSIDE;
        }
        long begin = 0L;
        for (int s = 0; s < piece.sections; s++) {
            long end = begin + lasting(s, startTempo);
            if (t < end) {
                return what == 0 ? s : (int) (t - begin);
            }
            begin = end;
        }
        return NONE;
    }

    public int within(int t) {
        if (!isMoment(t)) {
            return OUTSIDE;
        }
        // A faster START never makes the whole longer, so the last one that is too slow is halved in on.
        int tooSlow = SLOWEST - 1;
        for (int step = 256; step > 0; step /= 2) {
            int tried = tooSlow + step;
            if (tried <= FASTEST && lastingUpTo(piece.sections, tried) > t) {
                tooSlow = tried;
            }
        }
        return tooSlow < FASTEST ? tooSlow + 1 : NONE;
    }

    public int pivot(int s, int q, int k) {
        if (!isSection(s)) {
            return UNKNOWN;
        }
        if (!isWholeTempo(q) || k < -1 || k > LAST_TWO) {
            return OUTSIDE;
        }
        if (!joins.isPlayed(s)) {
            return STATE;
        }
        long upper = tempoPart(s, 0);
        long wanted = q * tempoPart(s, 1);
        int found = 0;
        for (int v = 0; v < VALUES; v++) {
            for (int w = 0; w < VALUES; w++) {
                if (upper * TICKS[w] == wanted * TICKS[v]) {
                    if (found == k) {
                        return 100 * v + w;
                    }
                    found++;
                }
            }
        }
        return k == -1 ? found : NONE;
    }

    public int pivots(int p, int q, int set, int k) {
        if (!isWholeTempo(p) || !isWholeTempo(q) || set < 0 || set > ALL_VALUES) {
            return OUTSIDE;
        }
        if (k < -1 || k >= PivotRow.MOST) {
            return OUTSIDE;
        }
        pivotRow.find(p, q, set);
        if (k == -1) {
            return pivotRow.length;
        }
        return k < pivotRow.length ? pivotRow.row[k] : NONE;
    }

    public int many(int what) {
        switch (what) {
            case 0: return piece.sections;
            case 1: return piece.ties;
            case 2: return joins.countOf(KEPT, piece.ties);
            case 3: return joins.countOf(SPARE, piece.ties);
            case 4: return joins.countOf(CLASHES, piece.ties);
            // Each KEPT TIE makes one set out of two.
            case 5: return piece.sections - joins.countOf(KEPT, piece.ties);
            case 6: return metronome.count;
            case 7: return pinsThatHold();
            case 8: return startTempo;
            default: return OUTSIDE;
        }
    }

    // ---- what is as told

    private boolean isSection(int s) {
        return s >= 0 && s < piece.sections;
    }

    private boolean isTie(int k) {
        return k >= 0 && k < piece.ties;
    }

    private static boolean isValue(int v) {
        return v >= 0 && v < VALUES;
    }

    private static boolean isBeats(int n) {
        return n >= 1 && n <= MOST_BEATS;
    }

    private static boolean isEar(int n) {
        return n >= 0 && n <= MOST_EAR;
    }

    private static boolean isWhich(int which) {
        return which == 0 || which == 1;
    }

    private static boolean isWholeTempo(int n) {
        return n >= SLOWEST && n <= FASTEST;
    }

    private static boolean isMoment(int t) {
        return t >= 0 && t <= LAST_MOMENT;
    }

    // ---- what several calls need

    private void tiesChanged() {
        joins.follow(piece);
        best.forget();
    }

    private boolean pinHolds(int s) {
        return piece.pins[s] != NONE && metronome.has(piece.pins[s]);
    }

    private int pinsThatHold() {
        int n = 0;
        for (int s = 0; s < piece.sections; s++) {
            if (pinHolds(s)) {
                n++;
            }
        }
        return n;
    }

    /** TEMPO of a SECTION that is JOINED to SECTION 0: the upper or the lower number. */
    private long tempoPart(int s, int which) {
        int twos = joins.twosBetween(0, s) + countOfFactor(startTempo, 2);
        int threes = joins.threesBetween(0, s) + countOfFactor(startTempo, 3);
        return part(restOf(startTempo), twos, threes, which);
    }

    private int nearestMark(int s) {
        if (!joins.isPlayed(s)) {
            return NONE;
        }
        return metronome.nearestTo(tempoPart(s, 0), tempoPart(s, 1));
    }

    /** How long a SECTION would last by a START: nothing, if it is not played. */
    private long lasting(int s, int byStart) {
        if (!joins.isPlayed(s)) {
            return 0L;
        }
        int twos = joins.twosBetween(0, s);
        int threes = joins.threesBetween(0, s);
        long upper = part(byStart, twos, threes, 0);
        long lower = part(byStart, twos, threes, 1);
        // 6 TIES of 64 to 9 at most: the product stays below 2 to the 59.
        return upper > 0L ? piece.beatsOf[s] * MINUTE * lower / upper : 0L;
    }

    /** How long all SECTIONS of a lesser number would last by a START. */
    private long lastingUpTo(int behind, int byStart) {
        long sum = 0L;
        for (int s = 0; s < behind && s < MOST_SECTIONS; s++) {
            sum += lasting(s, byStart);
        }
        return sum;
    }

    // ---- numbers as twos, threes and a rest

    /** The upper (0) or lower (1) number of a rest times 2 and 3 to these exponents. */
    private static long part(long rest, int twos, int threes, int which) {
        if (which == 0) {
            return rest * power(2L, twos) * power(3L, threes);
        }
        return power(2L, -twos) * power(3L, -threes);
    }

    /** 1, if the exponent is below 0: the factor is on the share's other side then. */
    private static long power(long base, int exponent) {
        long product = 1L;
        for (int i = 0; i < exponent; i++) {
            product *= base;
        }
        return product;
    }

    /** How often 2 or 3 is in a whole TEMPO. */
    private static int countOfFactor(int n, int factor) {
        int left = n;
        int count = 0;
        while (count < MOST_FACTORS && factor > 1 && left % factor == 0) {
            left /= factor;
            count++;
        }
        return count;
    }

    /** What is left of a whole TEMPO without its twos and threes. */
    private static long restOf(int n) {
        long without = power(2L, countOfFactor(n, 2)) * power(3L, countOfFactor(n, 3));
        return without > 0L ? n / without : n;
    }

    /** SECTIONS with their PINS, and TIES, as they were told. */
    private static final class Piece {
        int sections;
        final int[] beatsOf = new int[MOST_SECTIONS];
        final int[] pins = new int[MOST_SECTIONS];
        int ties;
        final int[] from = new int[MOST_TIES];
        final int[] fromValue = new int[MOST_TIES];
        final int[] to = new int[MOST_TIES];
        final int[] toValue = new int[MOST_TIES];
        final int[] ears = new int[MOST_TIES];

        int addSection(int n) {
            beatsOf[sections] = n;
            pins[sections] = NONE;
            sections++;
            return sections - 1;
        }

        int addTie(int a, int v, int b, int w, int heard) {
            from[ties] = a;
            fromValue[ties] = v;
            to[ties] = b;
            toValue[ties] = w;
            ears[ties] = heard;
            ties++;
            return ties - 1;
        }

        void removeTie(int k) {
            for (int i = k; i + 1 < ties; i++) {
                from[i] = from[i + 1];
                fromValue[i] = fromValue[i + 1];
                to[i] = to[i + 1];
                toValue[i] = toValue[i + 1];
                ears[i] = ears[i + 1];
            }
            ties--;
        }

        int tiesAt(int s) {
            int n = 0;
            for (int k = 0; k < ties; k++) {
                if (from[k] == s || to[k] == s) {
                    n++;
                }
            }
            return n;
        }

        /** The SECTION at the other end of a TIE, or NONE if this one is not in it. */
        int otherEnd(int k, int s) {
            if (from[k] == s) {
                return to[k];
            }
            return to[k] == s ? from[k] : NONE;
        }

        int twosOfTie(int k) {
            return TWOS[toValue[k]] - TWOS[fromValue[k]];
        }

        int threesOfTie(int k) {
            return THREES[toValue[k]] - THREES[fromValue[k]];
        }

        int driftBy(int k, int markOfFrom, int markOfTo) {
            return Math.abs(markOfTo * TICKS[fromValue[k]] - markOfFrom * TICKS[toValue[k]]);
        }
    }

    /**
     * What the TIES make of the SECTIONS. Within a set that is JOINED each SECTION is seen from
     * one and the same place: which place that is falls out of every difference between two.
     */
    private static final class Joins {
        final int[] least = new int[MOST_SECTIONS];
        final int[] twosTo = new int[MOST_SECTIONS];
        final int[] threesTo = new int[MOST_SECTIONS];
        final int[] routeTo = new int[MOST_SECTIONS];
        final int[] kinds = new int[MOST_TIES];

        void follow(Piece piece) {
            for (int s = 0; s < MOST_SECTIONS; s++) {
                least[s] = s;
                twosTo[s] = 0;
                threesTo[s] = 0;
                routeTo[s] = 0;
            }
            for (int k = 0; k < piece.ties; k++) {
                kinds[k] = judge(piece, k);
            }
        }

        private int judge(Piece piece, int k) {
            int a = piece.from[k];
            int b = piece.to[k];
            if (least[a] != least[b]) {
                keep(piece, k);
                return KEPT;
            }
            boolean agrees = twosBetween(a, b) == piece.twosOfTie(k)
                && threesBetween(a, b) == piece.threesOfTie(k);
            return agrees ? SPARE : CLASHES;
        }

        private void keep(Piece piece, int k) {
            int a = piece.from[k];
            int b = piece.to[k];
            int setOfA = least[a];
            int setOfB = least[b];
            int together = Math.min(setOfA, setOfB);
            int twos = twosTo[a] + piece.twosOfTie(k) - twosTo[b];
            int threes = threesTo[a] + piece.threesOfTie(k) - threesTo[b];
            int route = routeTo[a] ^ routeTo[b] ^ (1 << k);
            for (int s = 0; s < MOST_SECTIONS; s++) {
                if (least[s] == setOfB) {
                    twosTo[s] += twos;
                    threesTo[s] += threes;
                    routeTo[s] ^= route;
                    least[s] = together;
                } else if (least[s] == setOfA) {
                    least[s] = together;
                }
            }
        }

        /** Whether a SECTION is JOINED to SECTION 0. */
        boolean isPlayed(int s) {
            return least[s] == 0;
        }

        int twosBetween(int a, int b) {
            return twosTo[b] - twosTo[a];
        }

        int threesBetween(int a, int b) {
            return threesTo[b] - threesTo[a];
        }

        /** The KEPT TIES between two SECTIONS: those on the way to both of them fall out. */
        int routeBetween(int a, int b) {
            return routeTo[a] ^ routeTo[b];
        }

        int sizeOfSet(int s, int sections) {
            int n = 0;
            for (int other = 0; other < sections && other < MOST_SECTIONS; other++) {
                if (least[other] == least[s]) {
                    n++;
                }
            }
            return n;
        }

        int countOf(int kind, int ties) {
            int n = 0;
            for (int k = 0; k < ties && k < MOST_TIES; k++) {
                if (kinds[k] == kind) {
                    n++;
                }
            }
            return n;
        }
    }

    /** MARKS, the least first. */
    private static final class Metronome {
        final int[] marks = new int[MOST_MARKS];
        int count;

        Metronome() {
            marks[0] = 40;
            marks[1] = 60;
            marks[2] = 80;
            marks[3] = 100;
            marks[4] = 120;
            marks[5] = 144;
            marks[6] = 176;
            marks[7] = 208;
            count = 8;
        }

        /** Where a number is among the MARKS, or NONE. */
        int indexOf(int m) {
            for (int i = 0; i < count; i++) {
                if (marks[i] == m) {
                    return i;
                }
            }
            return NONE;
        }

        boolean has(int m) {
            return indexOf(m) != NONE;
        }

        void put(int m) {
            if (count >= MOST_MARKS) {
                return;
            }
            int i = count;
            for (; i > 0 && marks[i - 1] > m; i--) {
                marks[i] = marks[i - 1];
            }
            marks[i] = m;
            count++;
        }

        void take(int m) {
            int at = indexOf(m);
            if (at == NONE) {
                return;
            }
            for (int i = at; i + 1 < count; i++) {
                marks[i] = marks[i + 1];
            }
            count--;
        }

        /** The MARK that differs the least from a share, the lesser of two; NONE without MARKS. */
        int nearestTo(long upper, long lower) {
            int nearest = NONE;
            long least = 0L;
            for (int i = 0; i < count; i++) {
                long differs = Math.abs(upper - marks[i] * lower);
                if (nearest == NONE || differs < least) {
                    nearest = marks[i];
                    least = differs;
                }
            }
            return nearest;
        }
    }

    /**
     * BEST PLAY. KEPT TIES make a tree of the SECTIONS that are played, so the least HARM for
     * each MARK of one SECTION is gathered from the tree's leaves up to it. That is done for one
     * SECTION behind another, each being held to its first best MARK from then on: so the row
     * is the first of the best ones.
     */
    private static final class BestPlay {
        private static final int NEVER = 1000000000;

        final int[] chosen = new int[MOST_SECTIONS];
        int leastHarm;
        private boolean known;
        private final int[] firstMark = new int[MOST_SECTIONS];
        private final int[] lastMark = new int[MOST_SECTIONS];
        private final int[][] harmBy = new int[MOST_SECTIONS][MOST_MARKS];
        private final int[] order = new int[MOST_SECTIONS];
        private final int[] tieToRoot = new int[MOST_SECTIONS];
        private int reached;

        void forget() {
            known = false;
        }

        void find(Piece piece, Joins joins, Metronome metronome) {
            if (known) {
                return;
            }
            known = true;
            leastHarm = NONE;
            for (int s = 0; s < MOST_SECTIONS; s++) {
                chosen[s] = NONE;
            }
            if (piece.sections == 0 || metronome.count == 0) {
                return;
            }
            allowMarks(piece, metronome);
            for (int s = 0; s < piece.sections; s++) {
                if (joins.isPlayed(s)) {
                    orderFrom(s, piece, joins);
                    gather(piece, metronome);
                    choose(s, metronome);
                }
            }
        }

        private void allowMarks(Piece piece, Metronome metronome) {
            for (int s = 0; s < piece.sections; s++) {
                int pinned = metronome.indexOf(piece.pins[s]);
                firstMark[s] = pinned == NONE ? 0 : pinned;
                lastMark[s] = pinned == NONE ? metronome.count - 1 : pinned;
            }
        }

        /** The tree's SECTIONS, each behind the one by which one comes to it from the root. */
        private void orderFrom(int root, Piece piece, Joins joins) {
            int seen = 1 << root;
            order[0] = root;
            reached = 1;
            for (int i = 0; i < reached && i < MOST_SECTIONS; i++) {
                for (int k = 0; k < piece.ties; k++) {
                    int next = joins.kinds[k] == KEPT ? piece.otherEnd(k, order[i]) : NONE;
                    if (next >= 0 && (seen & (1 << next)) == 0 && reached < MOST_SECTIONS) {
                        seen |= 1 << next;
                        tieToRoot[next] = k;
                        order[reached] = next;
                        reached++;
                    }
                }
            }
        }

        private void gather(Piece piece, Metronome metronome) {
            for (int s = 0; s < piece.sections; s++) {
                for (int m = 0; m < MOST_MARKS; m++) {
                    harmBy[s][m] = 0;
                }
            }
            for (int i = reached - 1; i > 0; i--) {
                int child = order[i];
                int parent = piece.otherEnd(tieToRoot[child], child);
                if (parent >= 0) {
                    for (int m = firstMark[parent]; m <= lastMark[parent]; m++) {
                        harmBy[parent][m] += leastFrom(child, metronome.marks[m], piece, metronome);
                    }
                }
            }
        }

        /** The least HARM from a child on, and of the TIE to its parent, by the parent's MARK. */
        private int leastFrom(int child, int parentMark, Piece piece, Metronome metronome) {
            int k = tieToRoot[child];
            int least = NEVER;
            for (int m = firstMark[child]; m <= lastMark[child]; m++) {
                int mark = metronome.marks[m];
                int drift = piece.from[k] == child
                    ? piece.driftBy(k, mark, parentMark) : piece.driftBy(k, parentMark, mark);
                least = Math.min(least, harmBy[child][m] + piece.ears[k] * drift);
            }
            return least;
        }

        private void choose(int root, Metronome metronome) {
            int first = firstMark[root];
            for (int m = first; m <= lastMark[root]; m++) {
                if (harmBy[root][m] < harmBy[root][first]) {
                    first = m;
                }
            }
            firstMark[root] = first;
            lastMark[root] = first;
            leastHarm = harmBy[root][first];
            chosen[root] = metronome.marks[first];
        }
    }

    /**
     * The row of the fewest PIVOTS from p to q. A TEMPO on the way is p times 2 to the i and 3
     * to the j; for each j only a few i keep it within 20 .. 400. As v and w may change places,
     * one comes back by the same steps: distances are counted from q, and the row is read off
     * from p, always by the first step that comes nearer.
     */
    private static final class PivotRow {
        static final int MOST = 5;
        // A PIVOT changes j by 2 at most and i by 6 at most.
        private static final int THREES_STEP = 2, TWOS_STEP = 6;
        private static final int MIDDLE = MOST * THREES_STEP, ROWS = 2 * MIDDLE + 1;
        // From 20 .. 39 on, five doublings are beyond 400.
        private static final int WIDTH = 5, PLACES = ROWS * WIDTH;
        private static final int STEP_COLUMNS = 2 * TWOS_STEP + 1;
        private static final int STEPS = STEP_COLUMNS * (2 * THREES_STEP + 1);

        int length;
        final int[] row = new int[MOST];
        private int p;
        private int q;
        private int set;
        private final int[] leastTwos = new int[ROWS];
        private final int[] widthOf = new int[ROWS];
        private final boolean[] steps = new boolean[STEPS];
        private final int[] distance = new int[PLACES];
        private final int[] queue = new int[PLACES];

        void find(int fromTempo, int toTempo, int values) {
            if (p == fromTempo && q == toTempo && set == values) {
                return;
            }
            p = fromTempo;
            q = toTempo;
            set = values;
            length = NONE;
            if (restOf(p) != restOf(q)) {
                return;
            }
            layOutPlaces();
            collectSteps();
            measureFrom(placeOf(countOfFactor(q, 2) - countOfFactor(p, 2),
                countOfFactor(q, 3) - countOfFactor(p, 3)));
            int here = placeOf(0, 0);
            if (here != NONE && distance[here] != NONE) {
                length = distance[here];
                readRow();
            }
        }

        /** For each exponent of 3 the least one of 2, and how many from it on are in bounds. */
        private void layOutPlaces() {
            for (int r = 0; r < ROWS; r++) {
                long upper = p * power(3L, r - MIDDLE);
                long lower = power(3L, MIDDLE - r);
                int twos = 0;
                for (; twos < 64 && upper < SLOWEST * lower; twos++) {
                    upper *= 2L;
                }
                for (; twos > -64 && upper >= 2L * SLOWEST * lower; twos--) {
                    lower *= 2L;
                }
                leastTwos[r] = twos;
                widthOf[r] = upper * 16L <= FASTEST * lower ? WIDTH : WIDTH - 1;
            }
        }

        private void collectSteps() {
            for (int i = 0; i < STEPS; i++) {
                steps[i] = false;
            }
            for (int v = 0; v < VALUES; v++) {
                for (int w = 0; w < VALUES; w++) {
                    if (inSet(v) && inSet(w)) {
                        int twos = TWOS[w] - TWOS[v] + TWOS_STEP;
                        int threes = THREES[w] - THREES[v] + THREES_STEP;
                        steps[threes * STEP_COLUMNS + twos] = true;
                    }
                }
            }
        }

        private boolean inSet(int v) {
            return (set & (1 << v)) != 0;
        }

        /** The place of a TEMPO by its exponents, or NONE if it is out of bounds. */
        private int placeOf(int twos, int threes) {
            int r = threes + MIDDLE;
            if (r < 0 || r >= ROWS) {
                return NONE;
            }
            int column = twos - leastTwos[r];
            return column >= 0 && column < widthOf[r] ? r * WIDTH + column : NONE;
        }

        private int twosAt(int place) {
            return leastTwos[place / WIDTH] + place % WIDTH;
        }

        private int threesAt(int place) {
            return place / WIDTH - MIDDLE;
        }

        /** Distances up to MOST from a place; NONE for what is farther off. */
        private void measureFrom(int first) {
            for (int i = 0; i < PLACES; i++) {
                distance[i] = NONE;
            }
            if (first == NONE) {
                return;
            }
            distance[first] = 0;
            queue[0] = first;
            int queued = 1;
            for (int i = 0; i < queued && i < PLACES; i++) {
                if (distance[queue[i]] < MOST) {
                    queued = queueNext(queue[i], queued);
                }
            }
        }

        /** Puts what one step reaches anew behind the queue: how many are in it then. */
        private int queueNext(int place, int queuedAhead) {
            int queued = queuedAhead;
            for (int i = 0; i < STEPS; i++) {
                int next = steps[i] ? placeOf(twosAt(place) + i % STEP_COLUMNS - TWOS_STEP,
                    threesAt(place) + i / STEP_COLUMNS - THREES_STEP) : NONE;
                if (next != NONE && distance[next] == NONE && queued < PLACES) {
                    distance[next] = distance[place] + 1;
                    queue[queued] = next;
                    queued++;
                }
            }
            return queued;
        }

        private void readRow() {
            int twos = 0;
            int threes = 0;
            for (int i = 0; i < length && i < MOST; i++) {
                int step = firstStep(twos, threes, length - i - 1);
                if (step == NONE) {
                    return;
                }
                row[i] = step;
                twos += TWOS[step % 100] - TWOS[step / 100];
                threes += THREES[step % 100] - THREES[step / 100];
            }
        }

        /** The first PIVOT that leads to a TEMPO so far from q, as 100 v and w. */
        private int firstStep(int twos, int threes, int left) {
            for (int v = 0; v < VALUES; v++) {
                for (int w = 0; w < VALUES; w++) {
                    if (inSet(v) && inSet(w)) {
                        int next = placeOf(twos + TWOS[w] - TWOS[v], threes + THREES[w] - THREES[v]);
                        if (next != NONE && distance[next] == left) {
                            return 100 * v + w;
                        }
                    }
                }
            }
            return NONE;
        }
    }
}
