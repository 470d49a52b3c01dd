import java.util.Random;

/** All promises: runs of 512 random calls, each answered by the class and by the model. */
public final class ModelTest {
    private static final Due DUE = new Due("ModelTest");
    private static final int[] ODD = {Integer.MIN_VALUE, Integer.MAX_VALUE, -10, -9, -8, -2, -1, 0, 1, 2, 7, 12, 20};
    private static final int[] EASY_TEMPOS = {20, 24, 27, 32, 36, 48, 54, 64, 72, 81, 96, 108, 128, 144, 162, 192,
        216, 243, 256, 288, 324, 384, 400, 25, 50, 75, 100, 150, 200, 300, 40, 60, 80, 90, 120, 180, 240, 320, 360};

    private final Random random;
    private final PivotBeats x = new PivotBeats();
    private final Model y = new Model();

    private ModelTest(long seed) {
        random = new Random(seed);
    }

    public static void main(String[] args) {
        int runs = args.length > 0 ? Integer.parseInt(args[0]) : 60;
        long first = args.length > 1 ? Long.parseLong(args[1]) : 1L;
        for (int i = 0; i < runs; i++) {
            DUE.part("run " + (first + i));
            new ModelTest(first + i).run(i % 4);
        }
        DUE.end();
    }

    /** Kinds of runs: 0 with few MARKS, 1 with TIES that often agree, 2 with little to refuse, 3 any. */
    private void run(int kind) {
        if (kind == 0) {
            for (int m : new int[] {40, 60, 80, 100, 120, 144, 176, 208}) {
                if (random.nextInt(3) > 0) x.mark(m, false);
                else continue;
                y.mark(m, false);
            }
            y.changed();
        }
        if (kind < 3) {
            int n = 3 + random.nextInt(5);
            for (int s = 0; s < n; s++) {
                change(0, kind);
            }
            for (int k = 0; k < n; k++) {
                change(3, kind);
            }
        }
        for (int call = 0; call < 440; call++) {
            if (random.nextInt(4) == 0) {
                int which = random.nextInt(60);
                change(which == 0 ? 6 : which < 6 ? 0 : which < 10 ? 1 : which < 16 ? 2 : which < 30 ? 3
                    : which < 36 ? 4 : which < 42 ? 5 : which < 51 ? 7 : 8, kind);
            } else {
                ask(random.nextInt(21));
            }
        }
    }

    private int any(int least, int most) {
        if (random.nextInt(40) == 0) return ODD[random.nextInt(ODD.length)];
        if (random.nextInt(40) == 0) return random.nextBoolean() ? least - 1 : most + 1;
        if (random.nextInt(12) == 0) return random.nextBoolean() ? least : most;
        return least + random.nextInt(most - least + 1);
    }

    private int anySection() {
        return any(0, Math.max(0, y.many(0) - 1));
    }

    private int anyTie() {
        return any(0, Math.max(0, y.many(1) - 1));
    }

    private int anyTempo() {
        return random.nextInt(3) == 0 ? any(20, 400) : EASY_TEMPOS[random.nextInt(EASY_TEMPOS.length)];
    }

    private int anyMark() {
        int m = y.markAt(random.nextInt(16));
        return m > 0 ? m : any(20, 400);
    }

    private int anySet() {
        switch (random.nextInt(4)) {
            case 0: return any(0, 1048575);
            case 1: return 1048575 & random.nextInt() & random.nextInt();
            case 2: return 1 << random.nextInt(20) | 1 << random.nextInt(20) | 1 << random.nextInt(20);
            default: return 1 << random.nextInt(20) | 1 << random.nextInt(20);
        }
    }

    private void same(String call, long got, long due) {
        DUE.is(call, got, due);
    }

    private void change(int which, int kind) {
        switch (which) {
            case 0: {
                int n = any(1, 99);
                same("section(" + n + ")", x.section(n), y.section(n));
                break;
            }
            case 1: {
                int s = anySection();
                int v = any(1, 99);
                same("beats(" + s + ", " + v + ")", x.beats(s, v), y.beats(s, v));
                break;
            }
            case 2: {
                int v = anyTempo();
                same("start(" + v + ")", x.start(v), y.start(v));
                break;
            }
            case 3:
                tie(kind);
                break;
            case 4: {
                int k = anyTie();
                int v = any(0, 9);
                same("ear(" + k + ", " + v + ")", x.ear(k, v), y.ear(k, v));
                break;
            }
            case 5: {
                int k = anyTie();
                same("untie(" + k + ")", x.untie(k), y.untie(k));
                break;
            }
            case 6:
                same("clear()", x.clear(), y.clear());
                break;
            case 7: {
                boolean is = random.nextBoolean();
                int m = is ? any(20, 400) : anyMark();
                same("mark(" + m + ", " + is + ")", x.mark(m, is), y.mark(m, is));
                break;
            }
            default: {
                int s = anySection();
                int m = random.nextInt(3) == 0 ? -9 : random.nextInt(3) == 0 ? any(20, 400) : anyMark();
                same("pin(" + s + ", " + m + ")", x.pin(s, m), y.pin(s, m));
                break;
            }
        }
        y.changed();
        same("harm()", x.harm(), y.harm());
    }

    private void tie(int kind) {
        int a = anySection();
        int b = random.nextInt(15) == 0 ? a : anySection();
        int v = kind == 1 ? 8 + random.nextInt(4) : any(0, 19);
        int w = kind == 1 ? 8 + random.nextInt(4) : any(0, 19);
        int ear = random.nextInt(4) == 0 ? 0 : any(0, 9);
        same("tie(" + a + ", " + v + ", " + b + ", " + w + ", " + ear + ")",
            x.tie(a, v, b, w, ear), y.tie(a, v, b, w, ear));
    }

    private void ask(int which) {
        int s = anySection();
        int o = anySection();
        int k = anyTie();
        int n = any(0, 1);
        switch (which) {
            case 0: {
                int v = any(0, 19);
                same("ticks(" + v + ")", x.ticks(v), Model.ticks(v));
                break;
            }
            case 1: {
                int what = any(0, 5);
                same("ofSection(" + s + ", " + what + ")", x.ofSection(s, what), y.ofSection(s, what));
                break;
            }
            case 2: {
                int what = any(0, 5);
                same("ofTie(" + k + ", " + what + ")", x.ofTie(k, what), y.ofTie(k, what));
                break;
            }
            case 3: same("tempo(" + s + ", " + n + ")", x.tempo(s, n), y.tempo(s, n)); break;
            case 4: same("ratio(" + s + ", " + o + ", " + n + ")", x.ratio(s, o, n), y.ratio(s, o, n)); break;
            case 5: same("off(" + k + ", " + n + ")", x.off(k, n), y.off(k, n)); break;
            case 6: same("ring(" + k + ")", x.ring(k), y.ring(k)); break;
            case 7: {
                int at = any(0, 15);
                same("markAt(" + at + ")", x.markAt(at), y.markAt(at));
                break;
            }
            case 8: same("nearest(" + s + ")", x.nearest(s), y.nearest(s)); break;
            case 9: same("away(" + s + ", " + n + ")", x.away(s, n), y.away(s, n)); break;
            case 10: same("harm()", x.harm(), y.harm()); break;
            case 11: case 12: same("play(" + s + ")", x.play(s), y.play(s)); break;
            case 13: same("drift(" + k + ")", x.drift(k), y.drift(k)); break;
            case 14: same("clock(" + s + ", " + n + ")", x.clock(s, n), y.clock(s, n)); break;
            case 15: same("whole()", x.whole(), y.whole()); break;
            case 16: {
                int t = aMoment();
                same("where(" + t + ", " + n + ")", x.where(t, n), y.where(t, n));
                break;
            }
            case 17: {
                int t = aMoment();
                same("within(" + t + ")", x.within(t), y.within(t));
                break;
            }
            case 18: aPivot(s); break;
            case 19: somePivots(); break;
            default: {
                int what = any(0, 8);
                same("many(" + what + ")", x.many(what), y.many(what));
                break;
            }
        }
    }

    /** Most often one at which a SECTION begins or ends, or next to it. */
    private int aMoment() {
        int least = Math.max(0, y.many(0) - 1);
        long t = random.nextInt(3) == 0 ? y.whole() : y.clock(random.nextInt(least + 1), 0);
        t += random.nextInt(3) - 1;
        if (random.nextInt(3) == 0) t = (long) (random.nextDouble() * y.whole());
        if (random.nextInt(20) == 0) return any(0, 100000000);
        return (int) Math.max(-1L, Math.min(t, 100000001L));
    }

    private void aPivot(int s) {
        int q = anyTempo();
        if (y.tempo(s, 1) == 1 && random.nextBoolean()) {
            int v = random.nextInt(20);
            int w = random.nextInt(20);
            q = (int) Math.min(401L, y.tempo(s, 0) * Model.ticks(w) / Model.ticks(v));
        }
        int many = y.pivot(s, q, -1);
        int k = random.nextInt(6) == 0 ? any(-1, 399) : any(-1, Math.max(0, many));
        same("pivot(" + s + ", " + q + ", " + k + ")", x.pivot(s, q, k), y.pivot(s, q, k));
    }

    private void somePivots() {
        int p = anyTempo();
        int q = random.nextInt(20) == 0 ? p : anyTempo();
        int set = anySet();
        for (int k = random.nextInt(3) - 1; k < 5; k += 1 + random.nextInt(2)) {
            int at = random.nextInt(30) == 0 ? any(-1, 4) : k;
            same("pivots(" + p + ", " + q + ", " + set + ", " + at + ")",
                x.pivots(p, q, set, at), y.pivots(p, q, set, at));
        }
    }
}
