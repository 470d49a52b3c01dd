/** Promises 1 to 11: sections, ties. */
public final class SectionsTest {
    private static final Due DUE = new Due("SectionsTest");
    private static final int MIN = Integer.MIN_VALUE, MAX = Integer.MAX_VALUE;

    public static void main(String[] args) {
        promise1();
        promise2();
        promise3();
        promise4();
        promise5();
        promise6();
        promise7();
        promise8();
        promise9();
        promise10();
        promise11();
        DUE.end();
    }

    private static PivotBeats withSections(int n) {
        PivotBeats x = new PivotBeats();
        for (int i = 0; i < n; i++) {
            x.section(i + 1);
        }
        return x;
    }

    private static void promise1() {
        DUE.part("promise 1");
        PivotBeats x = new PivotBeats();
        int[] counts = {0, 0, 0, 0, 0, 0, 8, 0, 60};
        for (int what = 0; what < counts.length; what++) {
            DUE.is("many(" + what + ")", x.many(what), counts[what]);
        }
        int[] marks = {40, 60, 80, 100, 120, 144, 176, 208, -9, -9, -9, -9, -9, -9, -9, -9};
        for (int k = 0; k < marks.length; k++) {
            DUE.is("markAt(" + k + ")", x.markAt(k), marks[k]);
        }
        DUE.is("ofSection(0, 0)", x.ofSection(0, 0), -1);
        DUE.is("ofTie(0, 0)", x.ofTie(0, 0), -1);
        x.section(4);
        DUE.is("ofSection(0, 4)", x.ofSection(0, 4), -9);
        new PivotBeats().start(99);
        DUE.is("many(8), of another object", x.many(8), 60);
    }

    private static void promise2() {
        DUE.part("promise 2");
        PivotBeats x = new PivotBeats();
        for (int wrong : new int[] {0, 100, -1, MIN, MAX}) {
            DUE.is("section(" + wrong + ")", x.section(wrong), -2);
        }
        DUE.is("many(0)", x.many(0), 0);
        DUE.is("section(1)", x.section(1), 0);
        DUE.is("section(99)", x.section(99), 1);
        for (int i = 2; i < 7; i++) {
            DUE.is("section(10)", x.section(10), i);
        }
        DUE.is("section(10)", x.section(10), -4);
        DUE.is("section(0), OUTSIDE ahead of FULL", x.section(0), -2);
        DUE.is("many(0)", x.many(0), 7);
        DUE.is("ofSection(0, 0)", x.ofSection(0, 0), 1);
        DUE.is("ofSection(1, 0)", x.ofSection(1, 0), 99);
        DUE.is("ofSection(6, 0)", x.ofSection(6, 0), 10);
    }

    private static void promise3() {
        DUE.part("promise 3");
        PivotBeats x = withSections(2);
        DUE.is("beats(1, 99)", x.beats(1, 99), 2);
        DUE.is("beats(1, 1)", x.beats(1, 1), 99);
        DUE.is("beats(1, 0)", x.beats(1, 0), -2);
        DUE.is("beats(1, 100)", x.beats(1, 100), -2);
        DUE.is("ofSection(1, 0)", x.ofSection(1, 0), 1);
        DUE.is("ofSection(0, 0)", x.ofSection(0, 0), 1);
        for (int wrong : new int[] {2, -1, 7, MIN, MAX}) {
            DUE.is("beats(" + wrong + ", 5)", x.beats(wrong, 5), -1);
            DUE.is("beats(" + wrong + ", 0), UNKNOWN first", x.beats(wrong, 0), -1);
        }
        x.beats(0, 7);
        DUE.is("whole()", x.whole(), 7000);
    }

    private static void promise4() {
        DUE.part("promise 4");
        PivotBeats x = withSections(1);
        DUE.is("start(20)", x.start(20), 60);
        DUE.is("start(400)", x.start(400), 20);
        for (int wrong : new int[] {19, 401, 0, -60, MIN, MAX}) {
            DUE.is("start(" + wrong + ")", x.start(wrong), -2);
        }
        DUE.is("many(8)", x.many(8), 400);
        DUE.is("tempo(0, 0)", x.tempo(0, 0), 400);
        DUE.is("start(90)", x.start(90), 400);
        DUE.is("tempo(0, 0)", x.tempo(0, 0), 90);
    }

    private static void promise5() {
        DUE.part("promise 5");
        PivotBeats x = withSections(3);
        DUE.is("tie(0, 6, 1, 8, 0)", x.tie(0, 6, 1, 8, 0), 0);
        DUE.is("tie(2, 0, 1, 19, 9)", x.tie(2, 0, 1, 19, 9), 1);
        for (int wrong : new int[] {-1, 3, 7, MIN, MAX}) {
            DUE.is("tie(" + wrong + ", 8, 1, 8, 1)", x.tie(wrong, 8, 1, 8, 1), -1);
            DUE.is("tie(1, 8, " + wrong + ", 8, 1)", x.tie(1, 8, wrong, 8, 1), -1);
        }
        DUE.is("tie(1, 8, 1, 8, 1), one SECTION", x.tie(1, 8, 1, 8, 1), -1);
        for (int wrong : new int[] {-1, 20, MIN, MAX}) {
            DUE.is("tie(0, " + wrong + ", 1, 8, 1)", x.tie(0, wrong, 1, 8, 1), -1);
            DUE.is("tie(0, 8, 1, " + wrong + ", 1)", x.tie(0, 8, 1, wrong, 1), -1);
        }
        for (int wrong : new int[] {-1, 10, MIN, MAX}) {
            DUE.is("tie(0, 8, 1, 8, " + wrong + ")", x.tie(0, 8, 1, 8, wrong), -2);
            DUE.is("tie(0, 20, 1, 8, " + wrong + "), UNKNOWN first", x.tie(0, 20, 1, 8, wrong), -1);
        }
        DUE.is("many(1)", x.many(1), 2);
        for (int i = 2; i < 12; i++) {
            DUE.is("tie(0, 8, 2, 9, 3)", x.tie(0, 8, 2, 9, 3), i);
        }
        DUE.is("tie(0, 8, 2, 9, 3)", x.tie(0, 8, 2, 9, 3), -4);
        DUE.is("tie(0, 8, 2, 9, 10), OUTSIDE ahead of FULL", x.tie(0, 8, 2, 9, 10), -2);
        DUE.is("tie(0, 8, 3, 9, 3), UNKNOWN ahead of FULL", x.tie(0, 8, 3, 9, 3), -1);
        DUE.is("many(1)", x.many(1), 12);
    }

    private static void promise6() {
        DUE.part("promise 6");
        PivotBeats x = withSections(2);
        x.tie(0, 8, 1, 8, 4);
        DUE.is("ear(0, 0)", x.ear(0, 0), 4);
        DUE.is("ear(0, 9)", x.ear(0, 9), 0);
        DUE.is("ear(0, 10)", x.ear(0, 10), -2);
        DUE.is("ear(0, -1)", x.ear(0, -1), -2);
        DUE.is("ofTie(0, 4)", x.ofTie(0, 4), 9);
        for (int wrong : new int[] {1, -1, 12, MIN, MAX}) {
            DUE.is("ear(" + wrong + ", 3)", x.ear(wrong, 3), -1);
            DUE.is("ear(" + wrong + ", 10), UNKNOWN first", x.ear(wrong, 10), -1);
        }
        x.pin(0, 60);
        x.pin(1, 100);
        DUE.is("harm()", x.harm(), 9 * 40 * 24);
        x.ear(0, 2);
        DUE.is("harm(), by another EAR", x.harm(), 2 * 40 * 24);
    }

    private static void promise7() {
        DUE.part("promise 7");
        PivotBeats x = withSections(3);
        x.tie(0, 8, 1, 8, 1);
        x.tie(0, 8, 1, 10, 2);
        x.tie(1, 8, 2, 9, 3);
        for (int wrong : new int[] {3, -1, MIN, MAX}) {
            DUE.is("untie(" + wrong + ")", x.untie(wrong), -1);
        }
        DUE.is("ofTie(1, 5)", x.ofTie(1, 5), 2);
        DUE.is("untie(0)", x.untie(0), 2);
        int[][] left = {{0, 8, 1, 10, 2, 0}, {1, 8, 2, 9, 3, 0}};
        for (int k = 0; k < 2; k++) {
            for (int what = 0; what < 6; what++) {
                DUE.is("ofTie(" + k + ", " + what + ")", x.ofTie(k, what), left[k][what]);
            }
        }
        DUE.is("ofTie(2, 0)", x.ofTie(2, 0), -1);
        DUE.is("tempo(1, 0)", x.tempo(1, 0), 90);
        DUE.is("untie(1)", x.untie(1), 1);
        DUE.is("tempo(2, 0)", x.tempo(2, 0), -9);
        DUE.is("untie(0)", x.untie(0), 0);
        DUE.is("untie(0)", x.untie(0), -1);
        DUE.is("many(5)", x.many(5), 3);
        for (int i = 0; i < 12; i++) {
            x.tie(0, 8, 1, 8, 1);
        }
        DUE.is("untie(11)", x.untie(11), 11);
        DUE.is("tie(1, 8, 0, 8, 1)", x.tie(1, 8, 0, 8, 1), 11);
    }

    private static void promise8() {
        DUE.part("promise 8");
        PivotBeats x = withSections(7);
        x.tie(0, 8, 1, 8, 1);
        x.tie(1, 8, 2, 8, 1);
        x.pin(0, 100);
        x.pin(6, 100);
        x.start(77);
        x.mark(77, true);
        DUE.is("clear()", x.clear(), 2);
        int[] counts = {0, 0, 0, 0, 0, 0, 9, 0, 77};
        for (int what = 0; what < counts.length; what++) {
            DUE.is("many(" + what + ")", x.many(what), counts[what]);
        }
        DUE.is("clear()", x.clear(), 0);
        DUE.is("ofSection(0, 0)", x.ofSection(0, 0), -1);
        DUE.is("section(5)", x.section(5), 0);
        DUE.is("section(6)", x.section(6), 1);
        DUE.is("ofSection(0, 4)", x.ofSection(0, 4), -9);
        DUE.is("ofSection(0, 1)", x.ofSection(0, 1), 0);
        DUE.is("ofSection(0, 2)", x.ofSection(0, 2), 1);
        DUE.is("ofSection(1, 3)", x.ofSection(1, 3), 1);
        DUE.is("tie(0, 8, 1, 8, 1)", x.tie(0, 8, 1, 8, 1), 0);
    }

    private static void promise9() {
        DUE.part("promise 9");
        PivotBeats x = new PivotBeats();
        for (int v = 0; v < 20; v++) {
            int due = 96 >> (v / 4);
            due = (v & 2) != 0 ? due * 3 / 2 : due;
            due = (v & 1) != 0 ? due * 2 / 3 : due;
            DUE.is("ticks(" + v + ")", x.ticks(v), due);
        }
        for (int wrong : new int[] {-1, 20, MIN, MAX}) {
            DUE.is("ticks(" + wrong + ")", x.ticks(wrong), -1);
        }
    }

    private static void promise10() {
        DUE.part("promise 10");
        PivotBeats x = withSections(6);
        x.tie(5, 8, 3, 8, 1);
        x.tie(3, 8, 4, 8, 1);
        x.tie(4, 8, 5, 10, 1);
        x.tie(0, 8, 2, 8, 1);
        x.pin(4, 100);
        x.pin(2, 101);
        int[][] due = {
            {1, 1, 2, 0, -9, 0}, {2, 0, 1, 1, -9, 0}, {3, 1, 2, 0, 101, 0},
            {4, 2, 3, 3, -9, 0}, {5, 2, 3, 3, 100, 1}, {6, 2, 3, 3, -9, 0}};
        for (int s = 0; s < 6; s++) {
            for (int what = 0; what < 6; what++) {
                DUE.is("ofSection(" + s + ", " + what + ")", x.ofSection(s, what), due[s][what]);
            }
        }
        x.tie(5, 8, 1, 8, 1);
        DUE.is("ofSection(4, 3)", x.ofSection(4, 3), 1);
        DUE.is("ofSection(4, 2)", x.ofSection(4, 2), 4);
        x.tie(4, 8, 2, 8, 1);
        for (int s = 0; s < 6; s++) {
            DUE.is("ofSection(" + s + ", 3)", x.ofSection(s, 3), 0);
            DUE.is("ofSection(" + s + ", 2)", x.ofSection(s, 2), 6);
        }
        x.mark(100, false);
        DUE.is("ofSection(4, 4)", x.ofSection(4, 4), 100);
        DUE.is("ofSection(4, 5)", x.ofSection(4, 5), 0);
        for (int wrong : new int[] {6, -1, MIN, MAX}) {
            DUE.is("ofSection(" + wrong + ", 0)", x.ofSection(wrong, 0), -1);
            DUE.is("ofSection(" + wrong + ", 6), UNKNOWN first", x.ofSection(wrong, 6), -1);
            DUE.is("ofSection(0, " + wrong + ")", x.ofSection(0, wrong), -2);
        }
    }

    private static void promise11() {
        DUE.part("promise 11");
        PivotBeats x = withSections(3);
        x.tie(0, 8, 1, 10, 3);
        x.tie(2, 4, 1, 12, 0);
        // From 0 to 1 by 3 to 2, from 1 to 2 by 4 to 1: 6 to 1 in all.
        x.tie(0, 16, 2, 10, 9);
        x.tie(2, 8, 0, 8, 5);
        x.tie(1, 10, 0, 8, 5);
        x.tie(1, 8, 0, 9, 5);
        // From 0 to 1 not by 3 to 4, not by 1 to 2.
        x.tie(0, 8, 1, 14, 5);
        x.tie(0, 8, 1, 12, 5);
        int[][] due = {
            {0, 8, 1, 10, 3, 0}, {2, 4, 1, 12, 0, 0}, {0, 16, 2, 10, 9, 1}, {2, 8, 0, 8, 5, 2},
            {1, 10, 0, 8, 5, 1}, {1, 8, 0, 9, 5, 1}, {0, 8, 1, 14, 5, 2}, {0, 8, 1, 12, 5, 2}};
        for (int k = 0; k < due.length; k++) {
            for (int what = 0; what < 6; what++) {
                DUE.is("ofTie(" + k + ", " + what + ")", x.ofTie(k, what), due[k][what]);
            }
        }
        for (int wrong : new int[] {8, -1, 12, MIN, MAX}) {
            DUE.is("ofTie(" + wrong + ", 0)", x.ofTie(wrong, 0), -1);
            DUE.is("ofTie(" + wrong + ", 6), UNKNOWN first", x.ofTie(wrong, 6), -1);
            DUE.is("ofTie(0, " + wrong + ")", x.ofTie(0, wrong), -2);
        }
    }
}
