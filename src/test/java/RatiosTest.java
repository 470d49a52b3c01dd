/** Promises 12 to 15: ratios, rings. */
public final class RatiosTest {
    private static final Due DUE = new Due("RatiosTest");
    private static final int MIN = Integer.MIN_VALUE, MAX = Integer.MAX_VALUE;

    public static void main(String[] args) {
        promise12();
        promise13();
        promise14();
        promise15();
        theLongestWays();
        DUE.end();
    }

    private static PivotBeats withSections(int n) {
        PivotBeats x = new PivotBeats();
        for (int i = 0; i < n; i++) {
            x.section(99);
        }
        return x;
    }

    private static void tempoIs(PivotBeats x, int s, long upper, long lower) {
        DUE.is("tempo(" + s + ", 0)", x.tempo(s, 0), upper);
        DUE.is("tempo(" + s + ", 1)", x.tempo(s, 1), lower);
    }

    private static void ratioIs(PivotBeats x, int a, int b, long upper, long lower) {
        DUE.is("ratio(" + a + ", " + b + ", 0)", x.ratio(a, b, 0), upper);
        DUE.is("ratio(" + a + ", " + b + ", 1)", x.ratio(a, b, 1), lower);
    }

    private static void offIs(PivotBeats x, int k, long upper, long lower) {
        DUE.is("off(" + k + ", 0)", x.off(k, 0), upper);
        DUE.is("off(" + k + ", 1)", x.off(k, 1), lower);
    }

    private static void promise12() {
        DUE.part("promise 12");
        PivotBeats x = withSections(4);
        x.tie(0, 6, 1, 8, 1);
        x.tie(2, 10, 1, 8, 1);
        tempoIs(x, 0, 60, 1);
        tempoIs(x, 1, 20, 1);
        tempoIs(x, 2, 30, 1);
        tempoIs(x, 3, -9, -9);
        x.start(61);
        tempoIs(x, 1, 61, 3);
        tempoIs(x, 2, 61, 2);
        x.start(400);
        tempoIs(x, 1, 400, 3);
        x.tie(3, 9, 2, 18, 1);
        tempoIs(x, 3, 3200, 9);
        x.untie(1);
        tempoIs(x, 2, -9, -9);
        tempoIs(x, 3, -9, -9);
        for (int wrong : new int[] {4, -1, 7, MIN, MAX}) {
            DUE.is("tempo(" + wrong + ", 0)", x.tempo(wrong, 0), -1);
            DUE.is("tempo(" + wrong + ", 2), UNKNOWN first", x.tempo(wrong, 2), -1);
        }
        for (int wrong : new int[] {2, -1, MIN, MAX}) {
            DUE.is("tempo(0, " + wrong + ")", x.tempo(0, wrong), -2);
            DUE.is("tempo(3, " + wrong + "), OUTSIDE ahead of NONE", x.tempo(3, wrong), -2);
        }
    }

    private static void promise13() {
        DUE.part("promise 13");
        PivotBeats x = withSections(5);
        x.tie(1, 8, 2, 10, 1);
        x.tie(3, 8, 2, 13, 1);
        x.tie(0, 8, 4, 0, 1);
        ratioIs(x, 1, 2, 3, 2);
        ratioIs(x, 2, 1, 2, 3);
        ratioIs(x, 3, 2, 1, 3);
        ratioIs(x, 1, 3, 9, 2);
        ratioIs(x, 3, 1, 2, 9);
        ratioIs(x, 4, 0, 1, 4);
        ratioIs(x, 3, 3, 1, 1);
        ratioIs(x, 0, 1, -9, -9);
        ratioIs(x, 3, 4, -9, -9);
        x.tie(4, 9, 3, 8, 1);
        ratioIs(x, 0, 1, 4, 3);
        ratioIs(x, 1, 0, 3, 4);
        // A TIE that CLASHES changes no RATIO.
        x.tie(0, 8, 1, 8, 1);
        ratioIs(x, 0, 1, 4, 3);
        for (int wrong : new int[] {5, -1, MIN, MAX}) {
            DUE.is("ratio(" + wrong + ", 0, 0)", x.ratio(wrong, 0, 0), -1);
            DUE.is("ratio(0, " + wrong + ", 0)", x.ratio(0, wrong, 0), -1);
            DUE.is("ratio(0, " + wrong + ", 2), UNKNOWN first", x.ratio(0, wrong, 2), -1);
            DUE.is("ratio(0, 1, " + wrong + ")", x.ratio(0, 1, wrong), -2);
        }
        x.untie(4);
        x.untie(3);
        ratioIs(x, 0, 1, -9, -9);
        DUE.is("ratio(0, 1, 2), OUTSIDE ahead of NONE", x.ratio(0, 1, 2), -2);
    }

    private static void promise14() {
        DUE.part("promise 14");
        PivotBeats x = withSections(3);
        x.tie(0, 8, 1, 10, 1);
        x.tie(1, 8, 2, 9, 1);
        x.tie(0, 8, 2, 8, 1);
        x.tie(0, 8, 2, 10, 1);
        x.tie(2, 8, 0, 10, 1);
        x.tie(1, 6, 0, 8, 1);
        offIs(x, 0, -9, -9);
        offIs(x, 1, -9, -9);
        offIs(x, 2, 1, 1);
        offIs(x, 3, 2, 3);
        offIs(x, 4, 2, 3);
        offIs(x, 5, 2, 1);
        x.untie(0);
        offIs(x, 1, -9, -9);
        offIs(x, 2, 2, 3);
        for (int wrong : new int[] {5, -1, MIN, MAX}) {
            DUE.is("off(" + wrong + ", 0)", x.off(wrong, 0), -1);
            DUE.is("off(" + wrong + ", 2), UNKNOWN first", x.off(wrong, 2), -1);
        }
        for (int wrong : new int[] {2, -1, MIN, MAX}) {
            DUE.is("off(2, " + wrong + ")", x.off(2, wrong), -2);
            DUE.is("off(0, " + wrong + "), OUTSIDE ahead of NONE", x.off(0, wrong), -2);
        }
    }

    private static void promise15() {
        DUE.part("promise 15");
        PivotBeats x = withSections(7);
        x.tie(1, 8, 0, 10, 1);
        x.tie(1, 8, 2, 9, 1);
        x.tie(4, 8, 3, 8, 1);
        x.tie(3, 8, 4, 8, 1);
        x.tie(3, 8, 2, 8, 1);
        x.tie(0, 8, 4, 8, 1);
        x.tie(2, 8, 1, 8, 1);
        x.tie(5, 8, 6, 8, 1);
        x.tie(6, 8, 3, 8, 1);
        x.tie(2, 8, 4, 8, 1);
        x.tie(5, 8, 0, 8, 1);
        x.tie(4, 8, 5, 8, 1);
        int[] due = {-9, -9, -9, 4 | 8, -9, 1 | 2 | 16 | 4 | 32, 2 | 64, -9, -9,
            16 | 4 | 512, 128 | 256 | 16 | 2 | 1 | 1024, 4 | 256 | 128 | 2048};
        for (int k = 0; k < due.length; k++) {
            DUE.is("ring(" + k + ")", x.ring(k), due[k]);
        }
        for (int wrong : new int[] {12, -1, MIN, MAX}) {
            DUE.is("ring(" + wrong + ")", x.ring(wrong), -1);
        }
        x.untie(2);
        DUE.is("ring(2)", x.ring(2), -9);
        DUE.is("ring(4)", x.ring(4), 1 | 2 | 8 | 4 | 16);
    }

    /** 6 KEPT TIES, each of 64 by 9 TICKS or of 144 by 4, and a last one that closes the ring. */
    private static void theLongestWays() {
        DUE.part("the longest ways");
        PivotBeats x = withSections(7);
        for (int s = 0; s < 6; s++) {
            x.tie(s, 1, s + 1, 18, 9);
        }
        x.tie(6, 1, 0, 18, 9);
        ratioIs(x, 0, 6, 531441L, 68719476736L);
        ratioIs(x, 6, 0, 68719476736L, 531441L);
        offIs(x, 6, 4398046511104L, 4782969L);
        DUE.is("ring(6)", x.ring(6), 127);
        x.start(400);
        tempoIs(x, 6, 13286025L, 4294967296L);
        x.start(397);
        tempoIs(x, 6, 397L * 531441L, 68719476736L);
        DUE.is("away(6, 0)", x.away(6, 0), 40L * 68719476736L - 397L * 531441L);
        DUE.is("away(6, 1)", x.away(6, 1), 68719476736L);
        DUE.is("clock(6, 1)", x.clock(6, 1), 99L * 60000L * 68719476736L / (397L * 531441L));
        x = withSections(7);
        for (int s = 0; s < 6; s++) {
            x.tie(s + 1, 2, s, 17, 9);
        }
        ratioIs(x, 0, 6, 2176782336L, 1L);
        ratioIs(x, 6, 0, 1L, 2176782336L);
        tempoIs(x, 6, 60L * 2176782336L, 1L);
        DUE.is("clock(6, 1)", x.clock(6, 1), 0);
    }
}
