import java.math.BigInteger;
import java.util.ArrayList;
import java.util.Collections;
import java.util.HashMap;
import java.util.HashSet;
import java.util.List;
import java.util.Map;
import java.util.Set;
import java.util.TreeSet;

/**
 * The document once more, as plainly as can be and by other ways than the class: shares of big
 * numbers, ways that are searched for anew each time, plays that are tried one by one.
 */
final class Model {
    static final int UNKNOWN = -1, OUTSIDE = -2, STATE = -3, FULL = -4, NONE = -9;

    record Share(BigInteger upper, BigInteger lower) {
        static Share of(long upper, long lower) {
            return of(BigInteger.valueOf(upper), BigInteger.valueOf(lower));
        }

        static Share of(BigInteger upper, BigInteger lower) {
            BigInteger g = upper.gcd(lower);
            return new Share(upper.divide(g), lower.divide(g));
        }

        Share times(Share other) {
            return of(upper.multiply(other.upper), lower.multiply(other.lower));
        }

        Share turned() {
            return of(lower, upper);
        }

        Share minus(Share other) {
            return of(upper.multiply(other.lower).subtract(other.upper.multiply(lower)), lower.multiply(other.lower));
        }

        Share abs() {
            return new Share(upper.abs(), lower);
        }

        int compare(Share other) {
            return upper.multiply(other.lower).compareTo(other.upper.multiply(lower));
        }

        long cut() {
            return upper.divide(lower).longValueExact();
        }

        long told(int which) {
            return (which == 0 ? upper : lower).longValueExact();
        }
    }

    static final class Section {
        int beats;
        int pin = NONE;
    }

    static final class Tie {
        int a;
        int v;
        int b;
        int w;
        int ear;
    }

    private final List<Section> sections = new ArrayList<>();
    private final List<Tie> ties = new ArrayList<>();
    private final TreeSet<Integer> marks = new TreeSet<>(List.of(40, 60, 80, 100, 120, 144, 176, 208));
    private int start = 60;
    private int[] bestRow;
    private long bestHarm;
    private List<Integer> rowTold;
    private List<Integer> row;

    private boolean noSection(int s) {
        return s < 0 || s >= sections.size();
    }

    private boolean noTie(int k) {
        return k < 0 || k >= ties.size();
    }

    private static boolean out(int n, int least, int most) {
        return n < least || n > most;
    }

    int section(int beats) {
        if (out(beats, 1, 99)) return OUTSIDE;
        if (sections.size() == 7) return FULL;
        Section s = new Section();
        s.beats = beats;
        sections.add(s);
        return sections.size() - 1;
    }

    int beats(int s, int v) {
        if (noSection(s)) return UNKNOWN;
        if (out(v, 1, 99)) return OUTSIDE;
        int was = sections.get(s).beats;
        sections.get(s).beats = v;
        return was;
    }

    int start(int v) {
        if (out(v, 20, 400)) return OUTSIDE;
        int was = start;
        start = v;
        return was;
    }

    int tie(int a, int v, int b, int w, int ear) {
        if (noSection(a) || noSection(b) || a == b || out(v, 0, 19) || out(w, 0, 19)) return UNKNOWN;
        if (out(ear, 0, 9)) return OUTSIDE;
        if (ties.size() == 12) return FULL;
        Tie t = new Tie();
        t.a = a;
        t.v = v;
        t.b = b;
        t.w = w;
        t.ear = ear;
        ties.add(t);
        return ties.size() - 1;
    }

    int ear(int k, int v) {
        if (noTie(k)) return UNKNOWN;
        if (out(v, 0, 9)) return OUTSIDE;
        int was = ties.get(k).ear;
        ties.get(k).ear = v;
        return was;
    }

    int untie(int k) {
        if (noTie(k)) return UNKNOWN;
        ties.remove(k);
        return ties.size();
    }

    int clear() {
        int were = ties.size();
        sections.clear();
        ties.clear();
        return were;
    }

    static int ticks(int v) {
        if (out(v, 0, 19)) return UNKNOWN;
        int[] byBase = {96, 48, 24, 12, 6};
        int base = v / 4;
        int dot = v % 4 / 2;
        int triplet = v % 2;
        int six = byBase[base] * 6;
        six = dot == 1 ? six + six / 2 : six;
        six = triplet == 1 ? six / 3 * 2 : six;
        return six / 6;
    }

    /** The ways that KEPT TIES of lesser numbers leave from a to b: the TIES on it, or null. */
    private List<Integer> way(int a, int b, int below, int from) {
        if (a == b) return new ArrayList<>();
        for (int k = 0; k < below; k++) {
            Tie t = ties.get(k);
            if (k == from || kind(k) != 0) continue;
            int next = t.a == a ? t.b : t.b == a ? t.a : -1;
            if (next < 0) continue;
            List<Integer> rest = way(next, b, below, k);
            if (rest != null) {
                rest.add(0, k);
                return rest;
            }
        }
        return null;
    }

    private Map<Integer, Integer> kindsSeen = new HashMap<>();
    private Map<Integer, Share> ratiosSeen = new HashMap<>();

    private int kind(int k) {
        Integer seen = kindsSeen.get(k);
        if (seen != null) return seen;
        Tie t = ties.get(k);
        List<Integer> way = way(t.a, t.b, k, -1);
        int kind = way == null ? 0 : along(t.a, way).equals(Share.of(ticks(t.w), ticks(t.v))) ? 1 : 2;
        kindsSeen.put(k, kind);
        return kind;
    }

    private Share along(int a, List<Integer> way) {
        Share all = Share.of(1, 1);
        int at = a;
        for (int k : way) {
            Tie t = ties.get(k);
            Share one = Share.of(ticks(t.w), ticks(t.v));
            all = all.times(t.a == at ? one : one.turned());
            at = t.a == at ? t.b : t.a;
        }
        return all;
    }

    /** To be called behind each call that changes anything. */
    void changed() {
        kindsSeen = new HashMap<>();
        ratiosSeen = new HashMap<>();
        bestRow = null;
    }

    private List<Integer> way(int a, int b) {
        return way(a, b, ties.size(), -1);
    }

    /** RATIO from SECTION 0, or null; kept, as it is asked for by every START. */
    private Share ratioTo(int s) {
        if (!ratiosSeen.containsKey(s)) {
            List<Integer> way = way(0, s);
            ratiosSeen.put(s, way == null ? null : along(0, way));
        }
        return ratiosSeen.get(s);
    }

    private boolean joined(int a, int b) {
        return a == 0 ? ratioTo(b) != null : way(a, b) != null;
    }

    private Share tempoOf(int s) {
        return tempoOf(s, start);
    }

    private Share tempoOf(int s, int byStart) {
        return Share.of(byStart, 1).times(ratioTo(s));
    }

    int ofSection(int s, int what) {
        if (noSection(s)) return UNKNOWN;
        if (out(what, 0, 5)) return OUTSIDE;
        int n = 0;
        int least = -1;
        for (int o = sections.size() - 1; o >= 0; o--) {
            if (joined(s, o)) {
                n++;
                least = o;
            }
        }
        int in = 0;
        for (Tie t : ties) {
            in += t.a == s || t.b == s ? 1 : 0;
        }
        int pin = sections.get(s).pin;
        return new int[] {sections.get(s).beats, in, n, least, pin, marks.contains(pin) ? 1 : 0}[what];
    }

    int ofTie(int k, int what) {
        if (noTie(k)) return UNKNOWN;
        if (out(what, 0, 5)) return OUTSIDE;
        Tie t = ties.get(k);
        return new int[] {t.a, t.v, t.b, t.w, t.ear, kind(k)}[what];
    }

    long tempo(int s, int which) {
        if (noSection(s)) return UNKNOWN;
        if (out(which, 0, 1)) return OUTSIDE;
        return joined(0, s) ? tempoOf(s).told(which) : NONE;
    }

    long ratio(int a, int b, int which) {
        if (noSection(a) || noSection(b)) return UNKNOWN;
        if (out(which, 0, 1)) return OUTSIDE;
        return joined(a, b) ? along(a, way(a, b)).told(which) : NONE;
    }

    long off(int k, int which) {
        if (noTie(k)) return UNKNOWN;
        if (out(which, 0, 1)) return OUTSIDE;
        if (kind(k) == 0) return NONE;
        Tie t = ties.get(k);
        return along(t.a, way(t.a, t.b)).times(Share.of(ticks(t.v), ticks(t.w))).told(which);
    }

    int ring(int k) {
        if (noTie(k)) return UNKNOWN;
        if (kind(k) == 0) return NONE;
        int set = 1 << k;
        for (int on : way(ties.get(k).a, ties.get(k).b)) {
            set |= 1 << on;
        }
        return set;
    }

    int mark(int m, boolean is) {
        if (out(m, 20, 400)) return OUTSIDE;
        if (!is) return marks.remove(m) ? 1 : 0;
        if (marks.contains(m)) return 0;
        if (marks.size() == 16) return FULL;
        marks.add(m);
        return 1;
    }

    int markAt(int k) {
        if (out(k, 0, 15)) return OUTSIDE;
        return k < marks.size() ? new ArrayList<>(marks).get(k) : NONE;
    }

    int nearest(int s) {
        if (noSection(s)) return UNKNOWN;
        if (marks.isEmpty() || !joined(0, s)) return NONE;
        int near = NONE;
        for (int m : marks.descendingSet()) {
            if (near == NONE || differs(s, m).compare(differs(s, near)) <= 0) near = m;
        }
        return near;
    }

    private Share differs(int s, int m) {
        return tempoOf(s).minus(Share.of(m, 1)).abs();
    }

    long away(int s, int which) {
        if (noSection(s)) return UNKNOWN;
        if (out(which, 0, 1)) return OUTSIDE;
        int near = nearest(s);
        return near == NONE ? NONE : differs(s, near).told(which);
    }

    int pin(int s, int m) {
        if (noSection(s)) return UNKNOWN;
        if (m != NONE && out(m, 20, 400)) return OUTSIDE;
        int was = sections.get(s).pin;
        sections.get(s).pin = m;
        return was;
    }

    private long driftOf(Tie t, int markOfA, int markOfB) {
        return Math.abs((long) markOfB * ticks(t.v) - (long) markOfA * ticks(t.w));
    }

    private void findBest() {
        if (bestRow != null) return;
        bestRow = new int[7];
        java.util.Arrays.fill(bestRow, NONE);
        bestHarm = Long.MAX_VALUE;
        if (!marks.isEmpty() && !sections.isEmpty()) tryPlays(0, 0L, bestRow.clone());
    }

    /** Rows in their order: a later one is taken only if its HARM is less. */
    private void tryPlays(int s, long harm, int[] row) {
        if (harm >= bestHarm) return;
        if (s == sections.size()) {
            bestHarm = harm;
            bestRow = row.clone();
            return;
        }
        if (!joined(0, s)) {
            tryPlays(s + 1, harm, row);
            return;
        }
        int pin = sections.get(s).pin;
        for (int m : marks) {
            if (marks.contains(pin) && m != pin) continue;
            row[s] = m;
            long more = 0L;
            for (int k = 0; k < ties.size(); k++) {
                Tie t = ties.get(k);
                if (kind(k) == 0 && Math.max(t.a, t.b) == s && row[t.a] != NONE && row[t.b] != NONE) {
                    more += t.ear * driftOf(t, row[t.a], row[t.b]);
                }
            }
            tryPlays(s + 1, harm + more, row);
        }
        row[s] = NONE;
    }

    int harm() {
        if (marks.isEmpty() || sections.isEmpty()) return NONE;
        findBest();
        return Math.toIntExact(bestHarm);
    }

    int play(int s) {
        if (noSection(s)) return UNKNOWN;
        findBest();
        return bestRow[s];
    }

    int drift(int k) {
        if (noTie(k)) return UNKNOWN;
        findBest();
        Tie t = ties.get(k);
        if (bestRow[t.a] == NONE || bestRow[t.b] == NONE) return NONE;
        return Math.toIntExact(driftOf(t, bestRow[t.a], bestRow[t.b]));
    }

    private long lasts(int s, int byStart) {
        return Share.of(sections.get(s).beats * 60000L, 1).times(tempoOf(s, byStart).turned()).cut();
    }

    private long wholeBy(int byStart) {
        long sum = 0L;
        for (int s = 0; s < sections.size(); s++) {
            sum += joined(0, s) ? lasts(s, byStart) : 0L;
        }
        return sum;
    }

    long clock(int s, int what) {
        if (noSection(s)) return UNKNOWN;
        if (out(what, 0, 1)) return OUTSIDE;
        if (!joined(0, s)) return NONE;
        if (what == 1) return lasts(s, start);
        long sum = 0L;
        for (int o = 0; o < s; o++) {
            sum += joined(0, o) ? lasts(o, start) : 0L;
        }
        return sum;
    }

    long whole() {
        return wholeBy(start);
    }

    int where(int t, int what) {
        if (out(t, 0, 100000000) || out(what, 0, 1)) return OUTSIDE;
        if (t >= whole()) return NONE;
        for (int s = sections.size() - 1; s >= 0; s--) {
            if (joined(0, s) && clock(s, 0) <= t && clock(s, 1) > 0) {
                return what == 0 ? s : (int) (t - clock(s, 0));
            }
        }
        return Integer.MIN_VALUE;
    }

    int within(int t) {
        if (out(t, 0, 100000000)) return OUTSIDE;
        for (int by = 20; by <= 400; by++) {
            if (wholeBy(by) <= t) return by;
        }
        return NONE;
    }

    int pivot(int s, int q, int k) {
        if (noSection(s)) return UNKNOWN;
        if (out(q, 20, 400) || out(k, -1, 399)) return OUTSIDE;
        if (!joined(0, s)) return STATE;
        List<Integer> twos = new ArrayList<>();
        Share tempo = tempoOf(s);
        Share wanted = Share.of(q, 1);
        for (int v = 0; v < 20; v++) {
            for (int w = 0; w < 20; w++) {
                if (tempo.times(Share.of(ticks(w), ticks(v))).equals(wanted)) twos.add(100 * v + w);
            }
        }
        if (k == -1) return twos.size();
        return k < twos.size() ? twos.get(k) : NONE;
    }

    int pivots(int p, int q, int set, int k) {
        if (out(p, 20, 400) || out(q, 20, 400) || out(set, 0, 1048575) || out(k, -1, 4)) return OUTSIDE;
        List<Integer> told = List.of(p, q, set);
        if (!told.equals(rowTold)) {
            row = rowOf(p, q, set);
            rowTold = told;
        }
        if (row == null) return NONE;
        if (k == -1) return row.size();
        return k < row.size() ? row.get(k) : NONE;
    }

    /** Forward from p, with the first row to each TEMPO that so many PIVOTS reach. */
    static List<Integer> rowOf(int p, int q, int set) {
        Share slow = Share.of(20, 1);
        Share fast = Share.of(400, 1);
        Share goal = Share.of(q, 1);
        Map<Share, List<Integer>> rows = new HashMap<>();
        Set<Share> seen = new HashSet<>();
        rows.put(Share.of(p, 1), new ArrayList<>());
        for (int n = 0; n <= 5; n++) {
            if (rows.containsKey(goal)) return rows.get(goal);
            seen.addAll(rows.keySet());
            Map<Share, List<Integer>> next = new HashMap<>();
            for (Map.Entry<Share, List<Integer>> here : rows.entrySet()) {
                for (int v = 0; v < 20; v++) {
                    for (int w = 0; w < 20; w++) {
                        if ((set >> v & 1) == 0 || (set >> w & 1) == 0) continue;
                        Share there = here.getKey().times(Share.of(ticks(w), ticks(v)));
                        if (there.compare(slow) < 0 || there.compare(fast) > 0 || seen.contains(there)) continue;
                        List<Integer> row = new ArrayList<>(here.getValue());
                        row.add(100 * v + w);
                        next.merge(there, row, Model::first);
                    }
                }
            }
            rows = next;
        }
        return null;
    }

    private static List<Integer> first(List<Integer> one, List<Integer> other) {
        for (int i = 0; i < one.size(); i++) {
            int order = Integer.compare(one.get(i), other.get(i));
            if (order != 0) return order < 0 ? one : other;
        }
        return one;
    }

    int many(int what) {
        if (out(what, 0, 8)) return OUTSIDE;
        List<Integer> kinds = new ArrayList<>();
        for (int k = 0; k < ties.size(); k++) {
            kinds.add(kind(k));
        }
        int sets = 0;
        int pins = 0;
        for (int s = 0; s < sections.size(); s++) {
            sets += ofSection(s, 3) == s ? 1 : 0;
            pins += ofSection(s, 5);
        }
        return new int[] {sections.size(), ties.size(), Collections.frequency(kinds, 0),
            Collections.frequency(kinds, 1), Collections.frequency(kinds, 2), sets, marks.size(), pins, start}[what];
    }
}
