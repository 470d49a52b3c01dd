/** Promises 16 to 23: marks, plays. */
public final class PlaysTest {
    private static final Due DUE = new Due("PlaysTest");
    private static final int MIN = Integer.MIN_VALUE, MAX = Integer.MAX_VALUE;

    public static void main(String[] args) {
        promise16();
        promise17();
        promise18And19();
        promise20();
        promise21();
        promise22();
        promise23();
        whatChangesBestPlay();
        DUE.end();
    }

    private static PivotBeats withSections(int n) {
        PivotBeats x = new PivotBeats();
        for (int i = 0; i < n; i++) {
            x.section(4);
        }
        return x;
    }

    private static void onlyMarks(PivotBeats x, int... marks) {
        for (int m = 20; m <= 400; m++) {
            x.mark(m, false);
        }
        for (int m : marks) {
            x.mark(m, true);
        }
    }

    private static void marksAre(PivotBeats x, int... marks) {
        for (int k = 0; k < 16; k++) {
            DUE.is("markAt(" + k + ")", x.markAt(k), k < marks.length ? marks[k] : -9);
        }
        DUE.is("many(6)", x.many(6), marks.length);
    }

    private static void playIs(PivotBeats x, int harm, int... marks) {
        DUE.is("harm()", x.harm(), harm);
        for (int s = 0; s < marks.length; s++) {
            DUE.is("play(" + s + ")", x.play(s), marks[s]);
        }
    }

    private static void promise16() {
        DUE.part("promise 16");
        PivotBeats x = new PivotBeats();
        for (int wrong : new int[] {19, 401, 0, -9, MIN, MAX}) {
            DUE.is("mark(" + wrong + ", true)", x.mark(wrong, true), -2);
            DUE.is("mark(" + wrong + ", false)", x.mark(wrong, false), -2);
        }
        DUE.is("mark(20, true)", x.mark(20, true), 1);
        DUE.is("mark(20, true)", x.mark(20, true), 0);
        DUE.is("mark(400, true)", x.mark(400, true), 1);
        DUE.is("mark(101, true)", x.mark(101, true), 1);
        DUE.is("mark(102, false)", x.mark(102, false), 0);
        marksAre(x, 20, 40, 60, 80, 100, 101, 120, 144, 176, 208, 400);
        DUE.is("mark(20, false)", x.mark(20, false), 1);
        DUE.is("mark(20, false)", x.mark(20, false), 0);
        DUE.is("mark(120, false)", x.mark(120, false), 1);
        DUE.is("mark(400, false)", x.mark(400, false), 1);
        marksAre(x, 40, 60, 80, 100, 101, 144, 176, 208);
        for (int m = 308; m > 300; m--) {
            DUE.is("mark(" + m + ", true)", x.mark(m, true), 1);
        }
        DUE.is("mark(21, true), 16 others", x.mark(21, true), -4);
        DUE.is("mark(19, true), OUTSIDE ahead of FULL", x.mark(19, true), -2);
        DUE.is("mark(60, true), 15 others", x.mark(60, true), 0);
        DUE.is("mark(21, false)", x.mark(21, false), 0);
        marksAre(x, 40, 60, 80, 100, 101, 144, 176, 208, 301, 302, 303, 304, 305, 306, 307, 308);
        DUE.is("mark(308, false)", x.mark(308, false), 1);
        DUE.is("mark(21, true)", x.mark(21, true), 1);
        marksAre(x, 21, 40, 60, 80, 100, 101, 144, 176, 208, 301, 302, 303, 304, 305, 306, 307);
    }

    private static void promise17() {
        DUE.part("promise 17");
        PivotBeats x = new PivotBeats();
        marksAre(x, 40, 60, 80, 100, 120, 144, 176, 208);
        for (int wrong : new int[] {-1, 16, MIN, MAX}) {
            DUE.is("markAt(" + wrong + ")", x.markAt(wrong), -2);
        }
        onlyMarks(x);
        marksAre(x);
    }

    private static void nearestIs(PivotBeats x, int s, int mark, long upper, long lower) {
        DUE.is("nearest(" + s + ")", x.nearest(s), mark);
        DUE.is("away(" + s + ", 0)", x.away(s, 0), upper);
        DUE.is("away(" + s + ", 1)", x.away(s, 1), lower);
    }

    private static void promise18And19() {
        DUE.part("promises 18, 19");
        PivotBeats x = withSections(3);
        x.tie(0, 8, 1, 10, 1);
        nearestIs(x, 0, 60, 0, 1);
        nearestIs(x, 1, 80, 10, 1);
        nearestIs(x, 2, -9, -9, -9);
        x.start(51);
        nearestIs(x, 0, 60, 9, 1);
        nearestIs(x, 1, 80, 7, 2);
        x.start(45);
        x.mark(75, true);
        nearestIs(x, 1, 60, 15, 2);
        x.tie(2, 8, 1, 13, 1);
        nearestIs(x, 2, 208, 11, 2);
        x.start(400);
        nearestIs(x, 0, 208, 192, 1);
        x.start(20);
        nearestIs(x, 0, 40, 20, 1);
        x.mark(20, true);
        nearestIs(x, 0, 20, 0, 1);
        onlyMarks(x);
        nearestIs(x, 0, -9, -9, -9);
        DUE.is("away(0, 2), OUTSIDE ahead of NONE", x.away(0, 2), -2);
        for (int wrong : new int[] {3, -1, MIN, MAX}) {
            DUE.is("nearest(" + wrong + ")", x.nearest(wrong), -1);
            DUE.is("away(" + wrong + ", 0)", x.away(wrong, 0), -1);
            DUE.is("away(" + wrong + ", 2), UNKNOWN first", x.away(wrong, 2), -1);
            DUE.is("away(0, " + wrong + ")", x.away(0, wrong), -2);
        }
    }

    private static void promise20() {
        DUE.part("promise 20");
        PivotBeats x = withSections(2);
        DUE.is("pin(1, 20)", x.pin(1, 20), -9);
        DUE.is("pin(1, 400)", x.pin(1, 400), 20);
        for (int wrong : new int[] {19, 401, -1, 0, -8, -10, MIN, MAX}) {
            DUE.is("pin(1, " + wrong + ")", x.pin(1, wrong), -2);
        }
        DUE.is("ofSection(1, 4)", x.ofSection(1, 4), 400);
        DUE.is("ofSection(1, 5)", x.ofSection(1, 5), 0);
        DUE.is("ofSection(0, 4)", x.ofSection(0, 4), -9);
        x.mark(400, true);
        DUE.is("ofSection(1, 5)", x.ofSection(1, 5), 1);
        DUE.is("pin(1, -9)", x.pin(1, -9), 400);
        DUE.is("pin(1, -9)", x.pin(1, -9), -9);
        DUE.is("pin(1, 60)", x.pin(1, 60), -9);
        for (int wrong : new int[] {2, -1, 7, MIN, MAX}) {
            DUE.is("pin(" + wrong + ", 60)", x.pin(wrong, 60), -1);
            DUE.is("pin(" + wrong + ", 19), UNKNOWN first", x.pin(wrong, 19), -1);
        }
    }

    private static void promise21() {
        DUE.part("promise 21");
        PivotBeats x = new PivotBeats();
        DUE.is("harm(), no SECTIONS", x.harm(), -9);
        x.section(4);
        playIs(x, 0, 40);
        x.section(4);
        x.tie(0, 8, 1, 9, 7);
        playIs(x, 0, 60, 40);
        x.pin(0, 100);
        // 60 times 24 and 100 times 16 differ by 160, 80 times 24 by 320.
        playIs(x, 7 * 160, 100, 60);
        onlyMarks(x, 20, 400);
        playIs(x, 7 * 160, 20, 20);
        x.pin(0, 20);
        x.pin(1, 400);
        playIs(x, 7 * (400 * 24 - 20 * 16), 20, 400);
        onlyMarks(x);
        DUE.is("harm(), no MARKS", x.harm(), -9);
        x = withSections(7);
        onlyMarks(x, 20, 400);
        for (int s = 0; s < 7; s++) {
            x.pin(s, s % 2 == 0 ? 20 : 400);
        }
        for (int s = 0; s < 6; s++) {
            x.tie(s, s % 2 == 0 ? 2 : 17, s + 1, s % 2 == 0 ? 17 : 2, 9);
        }
        DUE.is("harm(), the most", x.harm(), 6 * 9 * (400 * 144 - 20 * 4));
    }

    private static void promise22() {
        DUE.part("promise 22");
        PivotBeats x = withSections(4);
        onlyMarks(x, 100, 110);
        x.tie(0, 8, 2, 8, 1);
        x.tie(2, 8, 1, 8, 1);
        playIs(x, 0, 100, 100, 100, -9);
        x.pin(0, 110);
        playIs(x, 0, 110, 110, 110, -9);
        x.pin(1, 100);
        playIs(x, 240, 110, 100, 100, -9);
        x.pin(0, -9);
        x.tie(1, 8, 3, 8, 9);
        x.pin(1, -9);
        x.pin(3, 110);
        x.pin(0, 100);
        playIs(x, 240, 100, 110, 100, 110);
        // TIES that CLASH have no say.
        x.tie(0, 8, 3, 0, 9);
        playIs(x, 240, 100, 110, 100, 110);
        for (int wrong : new int[] {4, -1, 7, MIN, MAX}) {
            DUE.is("play(" + wrong + ")", x.play(wrong), -1);
        }
        onlyMarks(x);
        DUE.is("play(0), no MARKS", x.play(0), -9);
    }

    private static void promise23() {
        DUE.part("promise 23");
        PivotBeats x = withSections(5);
        x.tie(0, 8, 1, 12, 3);
        x.tie(1, 8, 0, 8, 9);
        x.tie(3, 8, 4, 8, 9);
        x.tie(0, 8, 1, 10, 9);
        playIs(x, 0, 80, 40, -9, -9, -9);
        DUE.is("drift(0)", x.drift(0), 0);
        DUE.is("drift(1)", x.drift(1), 40 * 24);
        DUE.is("drift(2)", x.drift(2), -9);
        DUE.is("drift(3)", x.drift(3), 80 * 36 - 40 * 24);
        for (int wrong : new int[] {4, -1, 12, MIN, MAX}) {
            DUE.is("drift(" + wrong + ")", x.drift(wrong), -1);
        }
        onlyMarks(x);
        DUE.is("drift(0), no MARKS", x.drift(0), -9);
    }

    /** Every call that may change BEST PLAY, each asked for just behind it. */
    private static void whatChangesBestPlay() {
        DUE.part("what changes BEST PLAY");
        PivotBeats x = new PivotBeats();
        DUE.is("harm()", x.harm(), -9);
        x.section(4);
        playIs(x, 0, 40);
        x.section(4);
        playIs(x, 0, 40, -9);
        x.tie(0, 8, 1, 12, 3);
        playIs(x, 0, 80, 40);
        x.mark(40, false);
        playIs(x, 0, 120, 60);
        x.mark(40, true);
        playIs(x, 0, 80, 40);
        x.pin(1, 60);
        playIs(x, 0, 120, 60);
        x.pin(1, 61);
        playIs(x, 0, 80, 40);
        x.ear(0, 0);
        playIs(x, 0, 40, 40);
        x.ear(0, 1);
        playIs(x, 0, 80, 40);
        x.untie(0);
        playIs(x, 0, 40, -9);
        x.clear();
        DUE.is("harm()", x.harm(), -9);
        DUE.is("play(0)", x.play(0), -1);
    }
}
