/** Promises 24 to 30: the clock, pivots. */
public final class ClockTest {
    private static final Due DUE = new Due("ClockTest");
    private static final int MIN = Integer.MIN_VALUE, MAX = Integer.MAX_VALUE;
    private static final int ALL = 1048575;

    public static void main(String[] args) {
        promise24And25();
        promise26();
        promise27();
        promise28();
        promise29();
        promise30();
        DUE.end();
    }

    private static PivotBeats withBeats(int... beats) {
        PivotBeats x = new PivotBeats();
        for (int n : beats) {
            x.section(n);
        }
        return x;
    }

    private static int bits(int... values) {
        int set = 0;
        for (int v : values) {
            set |= 1 << v;
        }
        return set;
    }

    private static void clockIs(PivotBeats x, int s, long begins, long lasts) {
        DUE.is("clock(" + s + ", 0)", x.clock(s, 0), begins);
        DUE.is("clock(" + s + ", 1)", x.clock(s, 1), lasts);
    }

    private static void promise24And25() {
        DUE.part("promises 24, 25");
        PivotBeats x = new PivotBeats();
        DUE.is("whole()", x.whole(), 0);
        x = withBeats(7, 11, 13, 99);
        x.start(71);
        x.tie(0, 8, 2, 10, 1);
        x.tie(2, 9, 3, 8, 1);
        clockIs(x, 0, 0, 5915);
        clockIs(x, 1, -9, -9);
        clockIs(x, 2, 5915, 7323);
        clockIs(x, 3, 13238, 37183);
        DUE.is("whole()", x.whole(), 50421);
        x.beats(0, 1);
        clockIs(x, 2, 845, 7323);
        DUE.is("whole()", x.whole(), 45351);
        x.start(400);
        clockIs(x, 3, 150 + 1300, 6600);
        x.tie(3, 8, 1, 8, 1);
        clockIs(x, 1, 150, 733);
        clockIs(x, 3, 150 + 733 + 1300, 6600);
        for (int wrong : new int[] {4, -1, 7, MIN, MAX}) {
            DUE.is("clock(" + wrong + ", 0)", x.clock(wrong, 0), -1);
            DUE.is("clock(" + wrong + ", 2), UNKNOWN first", x.clock(wrong, 2), -1);
        }
        x.untie(2);
        for (int wrong : new int[] {2, -1, MIN, MAX}) {
            DUE.is("clock(0, " + wrong + ")", x.clock(0, wrong), -2);
            DUE.is("clock(1, " + wrong + "), OUTSIDE ahead of NONE", x.clock(1, wrong), -2);
        }
    }

    private static void whereIs(PivotBeats x, int t, int section, int gone) {
        DUE.is("where(" + t + ", 0)", x.where(t, 0), section);
        DUE.is("where(" + t + ", 1)", x.where(t, 1), gone);
    }

    private static void promise26() {
        DUE.part("promise 26");
        PivotBeats x = new PivotBeats();
        whereIs(x, 0, -9, -9);
        x = withBeats(4, 5, 6, 1);
        x.tie(0, 8, 2, 8, 1);
        x.tie(0, 8, 3, 8, 1);
        whereIs(x, 0, 0, 0);
        whereIs(x, 3999, 0, 3999);
        whereIs(x, 4000, 2, 0);
        whereIs(x, 9999, 2, 5999);
        whereIs(x, 10000, 3, 0);
        whereIs(x, 10999, 3, 999);
        whereIs(x, 11000, -9, -9);
        whereIs(x, 100000000, -9, -9);
        for (int wrong : new int[] {-1, 100000001, MIN, MAX}) {
            DUE.is("where(" + wrong + ", 0)", x.where(wrong, 0), -2);
            DUE.is("where(" + wrong + ", 1)", x.where(wrong, 1), -2);
            DUE.is("where(0, " + wrong + ")", x.where(0, wrong), -2);
        }
        DUE.is("where(11000, 2), OUTSIDE ahead of NONE", x.where(11000, 2), -2);
        // Section 2 is so fast that it lasts no thousandth at all: it ends as it begins.
        x = withBeats(2, 1, 1, 3);
        x.tie(0, 17, 1, 2, 1);
        x.tie(1, 17, 2, 2, 1);
        x.tie(0, 8, 3, 8, 1);
        clockIs(x, 1, 2000, 27);
        clockIs(x, 2, 2027, 0);
        whereIs(x, 2026, 1, 26);
        whereIs(x, 2027, 3, 0);
        // Section 1 goes on for longer than any moment that may be asked for.
        x = withBeats(1, 99);
        x.section(9);
        x.tie(0, 2, 2, 17, 1);
        x.tie(2, 2, 1, 17, 1);
        clockIs(x, 1, 1000, 99000L * 1296);
        whereIs(x, 100000000, 1, 99999000);
    }

    private static void promise27() {
        DUE.part("promise 27");
        PivotBeats x = new PivotBeats();
        DUE.is("within(0), no SECTIONS", x.within(0), 20);
        x = withBeats(4);
        x.start(100);
        DUE.is("within(100000000)", x.within(100000000), 20);
        DUE.is("within(12000)", x.within(12000), 20);
        DUE.is("within(11999)", x.within(11999), 21);
        DUE.is("within(2400)", x.within(2400), 100);
        DUE.is("within(600)", x.within(600), 400);
        DUE.is("within(601)", x.within(601), 399);
        DUE.is("within(599)", x.within(599), -9);
        DUE.is("within(0)", x.within(0), -9);
        DUE.is("many(8), as it was", x.many(8), 100);
        x.beats(0, 1);
        DUE.is("within(150)", x.within(150), 398);
        x.section(1);
        DUE.is("within(150), not JOINED", x.within(150), 398);
        x.tie(0, 8, 1, 8, 1);
        DUE.is("within(300)", x.within(300), 398);
        DUE.is("within(301)", x.within(301), 398);
        DUE.is("within(302)", x.within(302), 395);
        for (int wrong : new int[] {-1, 100000001, MIN, MAX}) {
            DUE.is("within(" + wrong + ")", x.within(wrong), -2);
        }
    }

    private static void promise28() {
        DUE.part("promise 28");
        PivotBeats x = withBeats(4, 4, 4);
        x.tie(0, 8, 1, 9, 1);
        DUE.is("pivot(0, 60, -1)", x.pivot(0, 60, -1), 30);
        int[] same = {0, 3, 101, 202, 300, 303, 404, 407, 505};
        for (int k = 0; k < same.length; k++) {
            DUE.is("pivot(0, 60, " + k + ")", x.pivot(0, 60, k), same[k]);
        }
        DUE.is("pivot(0, 60, 29)", x.pivot(0, 60, 29), 1919);
        DUE.is("pivot(0, 60, 30)", x.pivot(0, 60, 30), -9);
        DUE.is("pivot(0, 60, 399)", x.pivot(0, 60, 399), -9);
        DUE.is("pivot(1, 40, -1)", x.pivot(1, 40, -1), 30);
        DUE.is("pivot(1, 60, 0)", x.pivot(1, 60, 0), 2);
        DUE.is("pivot(0, 61, -1)", x.pivot(0, 61, -1), 0);
        DUE.is("pivot(0, 61, 0)", x.pivot(0, 61, 0), -9);
        x.start(64);
        DUE.is("pivot(0, 400, -1)", x.pivot(0, 400, -1), 0);
        x.start(225);
        DUE.is("pivot(0, 400, -1), by 16 to 9", x.pivot(0, 400, -1), 3);
        DUE.is("pivot(0, 400, 0)", x.pivot(0, 400, 0), 1001);
        DUE.is("pivot(1, 20, -1), 150 by 2 to 15", x.pivot(1, 20, -1), 0);
        for (int wrong : new int[] {3, -1, 7, MIN, MAX}) {
            DUE.is("pivot(" + wrong + ", 60, 0)", x.pivot(wrong, 60, 0), -1);
            DUE.is("pivot(" + wrong + ", 19, 0), UNKNOWN first", x.pivot(wrong, 19, 0), -1);
        }
        for (int wrong : new int[] {19, 401, MIN, MAX}) {
            DUE.is("pivot(0, " + wrong + ", 0)", x.pivot(0, wrong, 0), -2);
            DUE.is("pivot(2, " + wrong + ", 0), OUTSIDE ahead of STATE", x.pivot(2, wrong, 0), -2);
        }
        for (int wrong : new int[] {-2, 400, MIN, MAX}) {
            DUE.is("pivot(0, 60, " + wrong + ")", x.pivot(0, 60, wrong), -2);
            DUE.is("pivot(2, 60, " + wrong + "), OUTSIDE ahead of STATE", x.pivot(2, 60, wrong), -2);
        }
        DUE.is("pivot(2, 60, -1)", x.pivot(2, 60, -1), -3);
        DUE.is("pivot(2, 60, 0)", x.pivot(2, 60, 0), -3);
    }

    private static void rowIs(int p, int q, int set, int... row) {
        PivotBeats x = new PivotBeats();
        String call = "pivots(" + p + ", " + q + ", " + set + ", ";
        DUE.is(call + "-1)", x.pivots(p, q, set, -1), row.length);
        for (int k = 0; k < 5; k++) {
            DUE.is(call + k + ")", x.pivots(p, q, set, k), k < row.length ? row[k] : -9);
        }
    }

    private static void noRow(int p, int q, int set) {
        PivotBeats x = new PivotBeats();
        for (int k = -1; k < 5; k++) {
            DUE.is("pivots(" + p + ", " + q + ", " + set + ", " + k + ")", x.pivots(p, q, set, k), -9);
        }
    }

    private static void promise29() {
        DUE.part("promise 29");
        rowIs(100, 100, 0);
        rowIs(20, 20, ALL);
        rowIs(400, 400, 1);
        rowIs(60, 90, ALL, 2);
        rowIs(20, 320, bits(8, 12), 1208, 1208, 1208, 1208);
        rowIs(32, 243, bits(8, 10), 810, 810, 810, 810, 810);
        rowIs(20, 320, ALL, 1600);
        // By thirds, fifths and their difference: 4 is two of each, 8 would be three of each.
        rowIs(20, 80, bits(5, 8, 10), 805, 805, 810, 810);
        noRow(20, 160, bits(5, 8, 10));
        // 600 and 10 are out of bounds: which step is first depends on where one is.
        rowIs(200, 300, bits(2, 6, 8, 13), 206, 806);
        rowIs(20, 30, bits(2, 6, 8, 13), 806, 206);
        // 20 and 400 are within, as an end and on the way.
        rowIs(40, 20, ALL, 4);
        rowIs(20, 40, ALL, 400);
        rowIs(320, 20, bits(8, 12), 812, 812, 812, 812);
        rowIs(100, 400, ALL, 800);
        rowIs(400, 25, bits(8, 12), 812, 812, 812, 812);
        rowIs(25, 400, bits(8, 12), 1208, 1208, 1208, 1208);
        rowIs(40, 30, bits(2, 6, 8, 13), 206, 806, 206);
        rowIs(200, 75, bits(2, 6, 8, 13), 206, 206, 206, 806);
        // A third of 30 and a quarter of it are too slow, those of 300 are not.
        rowIs(30, 20, bits(2, 4, 10, 14), 1004, 1014);
        rowIs(300, 200, bits(2, 4, 10, 14), 204, 1410);
        noRow(38, 57, bits(2, 6));
        noRow(60, 61, ALL);
        noRow(20, 400, ALL);
        noRow(60, 90, 0);
        noRow(60, 90, bits(8));
        noRow(60, 90, bits(8, 12));
        PivotBeats x = new PivotBeats();
        for (int wrong : new int[] {19, 401, MIN, MAX}) {
            DUE.is("pivots(" + wrong + ", 60, 1, -1)", x.pivots(wrong, 60, 1, -1), -2);
            DUE.is("pivots(60, " + wrong + ", 1, -1)", x.pivots(60, wrong, 1, -1), -2);
        }
        for (int wrong : new int[] {-1, 1048576, MIN, MAX}) {
            DUE.is("pivots(60, 60, " + wrong + ", -1)", x.pivots(60, 60, wrong, -1), -2);
        }
        for (int wrong : new int[] {-2, 5, MIN, MAX}) {
            DUE.is("pivots(60, 60, 1, " + wrong + ")", x.pivots(60, 60, 1, wrong), -2);
        }
        // Rows of one object, one behind another: each number that is told counts.
        DUE.is("pivots(60, 90, ALL, 0)", x.pivots(60, 90, ALL, 0), 2);
        DUE.is("pivots(60, 40, ALL, 0)", x.pivots(60, 40, ALL, 0), 1);
        DUE.is("pivots(40, 40, ALL, -1)", x.pivots(40, 40, ALL, -1), 0);
        DUE.is("pivots(60, 40, ALL, 0)", x.pivots(60, 40, ALL, 0), 1);
        DUE.is("pivots(60, 40, bits(8, 9), 0)", x.pivots(60, 40, bits(8, 9), 0), 809);
        DUE.is("pivots(60, 40, bits(8, 9), 1)", x.pivots(60, 40, bits(8, 9), 1), -9);
    }

    private static void promise30() {
        DUE.part("promise 30");
        PivotBeats x = withBeats(1, 2, 3, 4, 5, 6);
        x.tie(0, 8, 1, 8, 1);
        x.tie(1, 8, 0, 8, 1);
        x.tie(1, 8, 0, 10, 1);
        x.tie(0, 8, 1, 10, 1);
        x.tie(2, 8, 3, 10, 1);
        x.tie(4, 8, 3, 10, 1);
        x.tie(4, 8, 2, 11, 1);
        x.pin(0, 60);
        x.pin(5, 80);
        x.pin(4, 81);
        x.mark(300, true);
        x.start(123);
        int[] due = {6, 7, 3, 2, 2, 3, 9, 2, 123};
        for (int what = 0; what < due.length; what++) {
            DUE.is("many(" + what + ")", x.many(what), due[what]);
        }
        for (int wrong : new int[] {-1, 9, MIN, MAX}) {
            DUE.is("many(" + wrong + ")", x.many(wrong), -2);
        }
    }
}
