/** Promises 1 to 11, and what "Terms" says of VALUES, SECTIONS and TIES: each edge by a run of its own. */
public final class SectionsEdgesTest {
    private static final Runs RUNS = new Runs("SectionsEdgesTest");
    private static final String TWO = "section(10)=0 section(20)=1";
    private static final String THREE = TWO + " section(30)=2";
    private static final String SEVEN = THREE + " section(40)=3 section(50)=4 section(60)=5 section(70)=6";
    private static final String TWELVE_TIES = "tie(0,8,1,8,0)=0 tie(1,8,2,8,1)=1 tie(0,8,2,8,2)=2 tie(0,8,1,9,3)=3"
        + " tie(0,8,1,10,4)=4 tie(1,0,0,19,5)=5 tie(2,19,0,0,6)=6 tie(2,1,1,2,7)=7 tie(2,3,1,4,8)=8"
        + " tie(0,5,1,6,9)=9 tie(0,7,1,9,1)=10 tie(0,10,1,11,2)=11";

    public static void main(String[] args) {
        theConstants();
        theTerms();
        aNewObject();
        section();
        beats();
        start();
        tie();
        tieUnknown();
        tieOutsideAndFull();
        ear();
        untie();
        clear();
        ticks();
        ofSection();
        ofTie();
        theLastCall();
        RUNS.end();
    }

    private static void theConstants() {
        Due due = RUNS.due();
        due.part("Terms: the constants");
        due.is("UNKNOWN", PivotBeats.UNKNOWN, -1);
        due.is("OUTSIDE", PivotBeats.OUTSIDE, -2);
        due.is("STATE", PivotBeats.STATE, -3);
        due.is("FULL", PivotBeats.FULL, -4);
        due.is("NONE", PivotBeats.NONE, -9);
    }

    private static void theTerms() {
        RUNS.says("Terms: all that is told is by how all is when it is asked: tie, untie",
            TWO, "tempo(1,0)=NONE many(5)=2 tie(0,8,1,10,1)=0 tempo(1,0)=90 many(5)=1 untie(0)=0 tempo(1,0)=NONE",
            "many(5)=2");
        RUNS.says("Terms: all that is told is by how all is when it is asked: start, beats",
            TWO, "tie(0,8,1,10,1)=0 tempo(1,0)=90 clock(1,0)=10000 start(20)=60 tempo(1,0)=30 clock(1,0)=30000",
            "beats(0,1)=10 clock(1,0)=3000 whole()=43000 where(3000,0)=1");
        RUNS.says("Terms: all that is told is by how all is when it is asked: section, mark, pin, ear",
            "harm()=NONE section(1)=0 harm()=0 section(1)=1 tie(0,8,1,8,1)=0 pin(0,60)=NONE pin(1,80)=NONE harm()=480",
            "ear(0,2)=1 harm()=960 mark(80,false)=1 harm()=0 mark(80,true)=1 harm()=960 pin(1,100)=80 harm()=1920",
            "clear()=1 harm()=NONE");
    }

    private static void aNewObject() {
        RUNS.says("Promise 1: no SECTIONS", "many(0)=0 many(5)=0 ofSection(0,0)=UNKNOWN beats(0,1)=UNKNOWN");
        RUNS.says("Promise 1: no TIES", "many(1)=0 many(2)=0 many(3)=0 many(4)=0 ofTie(0,0)=UNKNOWN ear(0,1)=UNKNOWN",
            "untie(0)=UNKNOWN");
        RUNS.says("Promise 1: no PINS", "many(7)=0", SEVEN, "many(7)=0 ofSection(0,4)=NONE ofSection(6,4)=NONE",
            "ofSection(0,5)=0 ofSection(6,5)=0");
        RUNS.says("==== 1: START is 60 at first", "many(8)=60 section(1)=0 tempo(0,0)=60 tempo(0,1)=1 start(61)=60");
        RUNS.says("==== 3: the MARKS at first", "many(6)=8 markAt(0)=40 markAt(1)=60 markAt(2)=80 markAt(3)=100",
            "markAt(4)=120 markAt(5)=144 markAt(6)=176 markAt(7)=208 markAt(8)=NONE markAt(15)=NONE");
        RUNS.says("The empty piece: calls that name a SECTION or a TIE",
            "beats(0,1)=UNKNOWN tie(0,0,1,0,0)=UNKNOWN tie(0,0,0,0,0)=UNKNOWN ear(0,0)=UNKNOWN untie(0)=UNKNOWN",
            "ofSection(0,0)=UNKNOWN ofTie(0,0)=UNKNOWN tempo(0,0)=UNKNOWN ratio(0,0,0)=UNKNOWN off(0,0)=UNKNOWN",
            "ring(0)=UNKNOWN nearest(0)=UNKNOWN away(0,0)=UNKNOWN pin(0,60)=UNKNOWN pin(0,NONE)=UNKNOWN",
            "play(0)=UNKNOWN drift(0)=UNKNOWN clock(0,0)=UNKNOWN pivot(0,60,-1)=UNKNOWN");
        RUNS.says("The empty piece: calls that name none",
            "clear()=0 harm()=NONE whole()=0 where(0,0)=NONE where(0,1)=NONE within(0)=20 pivots(60,90,ALL,-1)=1");
        Due due = RUNS.due();
        due.part("Promise 1: each object is of its own");
        PivotBeats one = new PivotBeats();
        PivotBeats other = new PivotBeats();
        one.section(5);
        one.start(99);
        one.mark(99, true);
        due.is("many(0) of the other", other.many(0), 0);
        due.is("many(6) of the other", other.many(6), 8);
        due.is("many(8) of the other", other.many(8), 60);
        due.is("markAt(3) of a third", new PivotBeats().markAt(3), 100);
    }

    private static void section() {
        RUNS.says("Promise 2: numbered from 0 on as they came", "section(9)=0 section(8)=1 section(7)=2",
            "ofSection(0,0)=9 ofSection(1,0)=8 ofSection(2,0)=7");
        RUNS.says("Promise 2: OUTSIDE: 1 BEAT is within, 0 is not", "section(0)=OUTSIDE section(1)=0 ofSection(0,0)=1");
        RUNS.says("Promise 2: OUTSIDE: 99 BEATS are within, 100 are not",
            "section(100)=OUTSIDE section(99)=0 ofSection(0,0)=99");
        RUNS.says("Promise 2: OUTSIDE: numbers far off", "section(-1)=OUTSIDE section(MIN)=OUTSIDE",
            "section(MAX)=OUTSIDE",
            "section(257)=OUTSIDE section(65537)=OUTSIDE section(-255)=OUTSIDE");
        RUNS.says("Promise 2: FULL: 7 SECTIONS at most", SEVEN, "section(1)=FULL section(99)=FULL many(0)=7",
            "ofSection(6,0)=70 ofSection(7,0)=UNKNOWN");
        RUNS.says("Promise 2: OUTSIDE ahead of FULL", SEVEN, "section(0)=OUTSIDE section(100)=OUTSIDE",
            "section(MIN)=OUTSIDE");
    }

    private static void beats() {
        RUNS.says("Promise 3: what they were", TWO, "beats(1,5)=20 beats(1,6)=5 beats(1,6)=6 ofSection(0,0)=10");
        RUNS.says("Promise 3: UNKNOWN: the last SECTION is there, the one behind it is not",
            THREE, "beats(2,5)=30 beats(3,5)=UNKNOWN beats(0,5)=10 beats(-1,5)=UNKNOWN");
        RUNS.says("Promise 3: UNKNOWN: numbers far off, and of a full piece",
            SEVEN, "beats(7,5)=UNKNOWN beats(6,5)=70 beats(MIN,5)=UNKNOWN beats(MAX,5)=UNKNOWN");
        RUNS.says("Promise 3: OUTSIDE: 1 is within, 0 is not", TWO, "beats(0,0)=OUTSIDE beats(0,1)=10",
            "ofSection(0,0)=1");
        RUNS.says("Promise 3: OUTSIDE: 99 is within, 100 is not",
            TWO, "beats(0,100)=OUTSIDE beats(0,99)=10 ofSection(0,0)=99 beats(0,MIN)=OUTSIDE beats(0,MAX)=OUTSIDE");
        RUNS.says("Promise 3: UNKNOWN ahead of OUTSIDE", TWO, "beats(2,0)=UNKNOWN beats(-1,100)=UNKNOWN",
            "beats(MAX,MIN)=UNKNOWN");
    }

    private static void start() {
        RUNS.says("Promise 4: what it was", "start(61)=60 start(62)=61 start(62)=62 many(8)=62");
        RUNS.says("Promise 4: OUTSIDE: 20 is within, 19 is not", "start(19)=OUTSIDE many(8)=60 start(20)=60",
            "many(8)=20");
        RUNS.says("Promise 4: OUTSIDE: 400 is within, 401 is not", "start(401)=OUTSIDE start(400)=60 many(8)=400");
        RUNS.says("Promise 4: OUTSIDE: numbers far off",
            "start(0)=OUTSIDE start(-60)=OUTSIDE start(MIN)=OUTSIDE start(MAX)=OUTSIDE start(NONE)=OUTSIDE many(8)=60");
        RUNS.says("Promise 4: START is there without SECTIONS, too", "start(100)=60 section(1)=0 tempo(0,0)=100");
    }

    private static void tie() {
        RUNS.says("==== 1: a dotted half of this one lasts as long as a quarter of that one",
            TWO, "tie(0,6,1,8,0)=0 tempo(1,0)=20 tempo(1,1)=1");
        RUNS.says("==== 1: TEMPO of b is that of a times TICKS of w by TICKS of v: the slowest",
            TWO, "tie(0,2,1,17,0)=0 tempo(1,0)=5 tempo(1,1)=3");
        RUNS.says("==== 1: TEMPO of b is that of a times TICKS of w by TICKS of v: the fastest",
            TWO, "tie(0,17,1,2,0)=0 tempo(1,0)=2160 tempo(1,1)=1");
        RUNS.says("==== 1: v and w may be the same VALUE", TWO, "tie(0,18,1,18,0)=0 tempo(1,0)=60 ofTie(0,5)=0");
        RUNS.says("==== 1: a may be behind b", TWO, "tie(1,8,0,10,0)=0 tempo(1,0)=40 ofTie(0,0)=1 ofTie(0,2)=0");
        RUNS.says("Promise 5: numbered from 0 on as they came, 12 at most", THREE, TWELVE_TIES,
            "many(1)=12 ofTie(0,4)=0 ofTie(3,4)=3 ofTie(11,1)=10 ofTie(11,3)=11 ofTie(11,4)=2 ofTie(12,0)=UNKNOWN");
        RUNS.says("Promise 5: VALUES 0 and 19 are there", TWO, "tie(0,0,1,19,1)=0 tie(0,19,1,0,1)=1 ofTie(0,1)=0",
            "ofTie(0,3)=19 ofTie(1,1)=19 ofTie(1,3)=0");
        RUNS.says("Promise 5: the first and the last SECTION of a full piece", SEVEN,
            "tie(0,8,6,8,1)=0 tie(6,8,0,8,1)=1 tie(5,8,6,8,1)=2 ofTie(0,2)=6 ofTie(1,0)=6");
        RUNS.says("Promise 5: EAR 0 and 9 are within", TWO, "tie(0,8,1,8,0)=0 tie(0,8,1,8,9)=1 ofTie(0,4)=0",
            "ofTie(1,4)=9");
    }

    private static void tieUnknown() {
        RUNS.says("Promise 5: UNKNOWN: a", TWO, "tie(2,8,1,8,1)=UNKNOWN tie(-1,8,1,8,1)=UNKNOWN",
            "tie(MIN,8,1,8,1)=UNKNOWN",
            "tie(MAX,8,1,8,1)=UNKNOWN tie(7,8,1,8,1)=UNKNOWN many(1)=0");
        RUNS.says("Promise 5: UNKNOWN: b", TWO, "tie(0,8,2,8,1)=UNKNOWN tie(0,8,-1,8,1)=UNKNOWN",
            "tie(0,8,MIN,8,1)=UNKNOWN",
            "tie(0,8,MAX,8,1)=UNKNOWN tie(0,8,7,8,1)=UNKNOWN many(1)=0");
        RUNS.says("Promise 5: UNKNOWN: SECTIONS of a full piece", SEVEN, "tie(7,8,0,8,1)=UNKNOWN",
            "tie(0,8,7,8,1)=UNKNOWN");
        RUNS.says("Promise 5: UNKNOWN: the SECTIONS are one", SEVEN,
            "tie(0,8,0,8,1)=UNKNOWN tie(1,0,1,19,1)=UNKNOWN tie(6,8,6,9,1)=UNKNOWN many(1)=0");
        RUNS.says("Promise 5: UNKNOWN: the SECTIONS are one that is not there", TWO, "tie(2,8,2,8,1)=UNKNOWN",
            "tie(-1,8,-1,8,1)=UNKNOWN");
        RUNS.says("Promise 5: UNKNOWN: v", TWO, "tie(0,20,1,8,1)=UNKNOWN tie(0,-1,1,8,1)=UNKNOWN",
            "tie(0,MIN,1,8,1)=UNKNOWN",
            "tie(0,MAX,1,8,1)=UNKNOWN many(1)=0");
        RUNS.says("Promise 5: UNKNOWN: w", TWO, "tie(0,8,1,20,1)=UNKNOWN tie(0,8,1,-1,1)=UNKNOWN",
            "tie(0,8,1,MIN,1)=UNKNOWN",
            "tie(0,8,1,MAX,1)=UNKNOWN many(1)=0");
        RUNS.says("Promise 5: UNKNOWN ahead of OUTSIDE", TWO, "tie(2,8,1,8,10)=UNKNOWN tie(0,8,2,8,-1)=UNKNOWN",
            "tie(1,8,1,8,10)=UNKNOWN tie(0,20,1,8,10)=UNKNOWN tie(0,8,1,-1,-1)=UNKNOWN");
        RUNS.says("Promise 5: UNKNOWN ahead of FULL", THREE, TWELVE_TIES, "tie(3,8,1,8,1)=UNKNOWN",
            "tie(0,8,3,8,1)=UNKNOWN",
            "tie(1,8,1,8,1)=UNKNOWN tie(0,20,1,8,1)=UNKNOWN tie(0,8,1,20,1)=UNKNOWN tie(0,8,1,20,10)=UNKNOWN");
    }

    private static void tieOutsideAndFull() {
        RUNS.says("Promise 5: OUTSIDE: ear", TWO, "tie(0,8,1,8,-1)=OUTSIDE tie(0,8,1,8,10)=OUTSIDE",
            "tie(0,8,1,8,MIN)=OUTSIDE",
            "tie(0,8,1,8,MAX)=OUTSIDE many(1)=0 ofSection(0,2)=1");
        RUNS.says("Promise 5: OUTSIDE ahead of FULL", THREE, TWELVE_TIES, "tie(0,8,1,8,10)=OUTSIDE",
            "tie(0,8,1,8,-1)=OUTSIDE");
        RUNS.says("Promise 5: FULL: 12 TIES at most", THREE, TWELVE_TIES,
            "tie(0,8,1,8,1)=FULL tie(0,0,2,19,9)=FULL many(1)=12 ofTie(11,1)=10");
        RUNS.says("Promise 5: not FULL any more when one is untied", THREE, TWELVE_TIES,
            "tie(0,8,1,8,1)=FULL untie(0)=11 tie(0,8,1,8,1)=11 tie(0,8,1,8,1)=FULL");
        RUNS.says("Promise 5: not FULL any more when all is cleared", THREE, TWELVE_TIES,
            "clear()=12", TWO, "tie(0,8,1,8,1)=0");
    }

    private static void ear() {
        RUNS.says("Promise 6: what it was", TWO, "tie(0,8,1,8,3)=0 ear(0,4)=3 ear(0,5)=4 ear(0,5)=5 ofTie(0,4)=5");
        RUNS.says("Promise 6: UNKNOWN: no TIES", TWO, "ear(0,1)=UNKNOWN");
        RUNS.says("Promise 6: UNKNOWN: the last TIE is there, the one behind it is not", TWO,
            "tie(0,8,1,8,3)=0 tie(0,8,1,9,4)=1 ear(2,1)=UNKNOWN ear(1,1)=4 ear(-1,1)=UNKNOWN ear(0,1)=3",
            "ear(MIN,1)=UNKNOWN ear(MAX,1)=UNKNOWN");
        RUNS.says("Promise 6: UNKNOWN: of 12 TIES", THREE, TWELVE_TIES, "ear(12,1)=UNKNOWN ear(11,1)=2");
        RUNS.says("Promise 6: OUTSIDE: 0 is within, -1 is not", TWO,
            "tie(0,8,1,8,3)=0 ear(0,-1)=OUTSIDE ear(0,0)=3 ofTie(0,4)=0 ear(0,MIN)=OUTSIDE");
        RUNS.says("Promise 6: OUTSIDE: 9 is within, 10 is not", TWO,
            "tie(0,8,1,8,3)=0 ear(0,10)=OUTSIDE ear(0,9)=3 ofTie(0,4)=9 ear(0,MAX)=OUTSIDE");
        RUNS.says("Promise 6: UNKNOWN ahead of OUTSIDE", TWO,
            "tie(0,8,1,8,3)=0 ear(1,10)=UNKNOWN ear(-1,-1)=UNKNOWN ear(MAX,MIN)=UNKNOWN");
        RUNS.says("Promise 6: of a TIE that is not KEPT, too", TWO, "tie(0,8,1,8,3)=0 tie(0,8,1,8,4)=1",
            "tie(0,8,1,9,5)=2",
            "ear(1,6)=4 ear(2,7)=5 ofTie(0,4)=3 ofTie(1,4)=6 ofTie(2,4)=7");
    }

    private static void untie() {
        RUNS.says("Promise 7: those behind it have 1 less as their number, those ahead of it keep theirs", THREE,
            "tie(0,1,1,2,3)=0 tie(1,4,2,5,6)=1 tie(2,7,0,8,9)=2 untie(1)=2 ofTie(0,0)=0 ofTie(0,1)=1 ofTie(0,2)=1",
            "ofTie(0,3)=2 ofTie(0,4)=3 ofTie(1,0)=2 ofTie(1,1)=7 ofTie(1,2)=0 ofTie(1,3)=8 ofTie(1,4)=9",
            "ofTie(2,0)=UNKNOWN");
        RUNS.says("Promise 7: the first of 12", THREE, TWELVE_TIES, "untie(0)=11 ofTie(0,4)=1 ofTie(10,1)=10",
            "ofTie(11,0)=UNKNOWN");
        RUNS.says("Promise 7: the last of 12", THREE, TWELVE_TIES, "untie(11)=11 ofTie(10,1)=7 ofTie(10,4)=1",
            "ofTie(11,0)=UNKNOWN");
        RUNS.says("Promise 7: how many are left: none", TWO, "tie(0,8,1,8,3)=0 untie(0)=0 untie(0)=UNKNOWN many(1)=0");
        RUNS.says("Promise 7: UNKNOWN: no TIES", TWO, "untie(0)=UNKNOWN untie(-1)=UNKNOWN");
        RUNS.says("Promise 7: UNKNOWN: the one behind the last", TWO,
            "tie(0,8,1,8,3)=0 tie(0,8,1,9,3)=1 untie(2)=UNKNOWN untie(-1)=UNKNOWN untie(MIN)=UNKNOWN",
            "untie(MAX)=UNKNOWN",
            "many(1)=2 untie(1)=1");
        RUNS.says("Promise 7: UNKNOWN: of 12 TIES", THREE, TWELVE_TIES, "untie(12)=UNKNOWN many(1)=12");
    }

    private static void clear() {
        RUNS.says("Promise 8: no SECTIONS, no TIES", THREE, TWELVE_TIES, "clear()=12 many(0)=0 many(1)=0 many(2)=0",
            "many(3)=0",
            "many(4)=0 many(5)=0 ofSection(0,0)=UNKNOWN ofTie(0,0)=UNKNOWN whole()=0");
        RUNS.says("Promise 8: no PINS", TWO, "pin(0,60)=NONE pin(1,80)=NONE many(7)=2 clear()=0 many(7)=0", TWO,
            "ofSection(0,4)=NONE ofSection(1,4)=NONE ofSection(1,5)=0 many(7)=0");
        RUNS.says("Promise 8: START, MARKS stay", "start(400)=60 mark(20,true)=1 mark(208,false)=1", TWO,
            "clear()=0 many(8)=400 many(6)=8 markAt(0)=20 markAt(7)=176 section(1)=0 tempo(0,0)=400");
        RUNS.says("Promise 8: how many TIES there were: none", "clear()=0 clear()=0", SEVEN, "clear()=0");
        RUNS.says("Promise 8: from 0 on again, and no TIE of before", SEVEN,
            "section(1)=FULL tie(0,8,6,8,1)=0 tie(1,8,2,8,1)=1 clear()=2", SEVEN, "section(1)=FULL",
            "ofSection(0,1)=0 ofSection(0,2)=1 ofSection(6,3)=6 tempo(6,0)=NONE tie(0,8,6,9,1)=0 tempo(6,0)=40");
    }

    private static void ticks() {
        RUNS.says("==== 1: VALUES 0 .. 19, TICKS of each: BASE 0", "ticks(0)=96 ticks(1)=64 ticks(2)=144 ticks(3)=96");
        RUNS.says("==== 1: VALUES 0 .. 19, TICKS of each: BASE 1", "ticks(4)=48 ticks(5)=32 ticks(6)=72 ticks(7)=48");
        RUNS.says("==== 1: VALUES 0 .. 19, TICKS of each: BASE 2", "ticks(8)=24 ticks(9)=16 ticks(10)=36 ticks(11)=24");
        RUNS.says("==== 1: VALUES 0 .. 19, TICKS of each: BASE 3", "ticks(12)=12 ticks(13)=8 ticks(14)=18",
            "ticks(15)=12");
        RUNS.says("==== 1: VALUES 0 .. 19, TICKS of each: BASE 4", "ticks(16)=6 ticks(17)=4 ticks(18)=9 ticks(19)=6");
        RUNS.says("Promise 9: UNKNOWN", "ticks(-1)=UNKNOWN ticks(20)=UNKNOWN ticks(MIN)=UNKNOWN ticks(MAX)=UNKNOWN",
            "ticks(32)=UNKNOWN ticks(256)=UNKNOWN ticks(-9)=UNKNOWN");
    }

    private static void ofSection() {
        RUNS.says("Promise 10: 0 BEATS: the least and the most", "section(1)=0 section(99)=1 ofSection(0,0)=1",
            "ofSection(1,0)=99");
        RUNS.says("Promise 10: 1 how many TIES it is in: none, all 12, of either side, KEPT or not", THREE,
            "ofSection(0,1)=0", TWELVE_TIES, "ofSection(0,1)=9 ofSection(1,1)=10 ofSection(2,1)=5");
        RUNS.says("Promise 10: 1 how many TIES it is in: 12", SEVEN,
            "tie(3,8,1,8,1)=0 tie(3,8,1,8,1)=1 tie(1,8,3,8,1)=2 tie(3,8,1,9,1)=3 tie(3,8,1,8,1)=4 tie(3,8,1,8,1)=5",
            "tie(3,8,1,8,1)=6 tie(3,8,1,8,1)=7 tie(3,8,1,8,1)=8 tie(3,8,1,8,1)=9 tie(3,8,1,8,1)=10 tie(5,8,3,8,1)=11",
            "ofSection(3,1)=12 ofSection(1,1)=11 ofSection(5,1)=1 ofSection(6,1)=0");
        RUNS.says("Promise 10: 2 to how many SECTIONS it is JOINED: itself, too", SEVEN,
            "ofSection(0,2)=1 ofSection(6,2)=1 tie(5,8,6,8,1)=0 ofSection(6,2)=2 ofSection(5,2)=2 ofSection(4,2)=1");
        RUNS.says("Promise 10: 2, 3: all 7 are JOINED", SEVEN,
            "tie(6,8,5,8,1)=0 tie(5,8,4,8,1)=1 tie(4,8,3,8,1)=2 tie(3,8,2,8,1)=3 tie(2,8,1,8,1)=4 ofSection(6,2)=6",
            "ofSection(6,3)=1 tie(1,8,0,8,1)=5 ofSection(6,2)=7 ofSection(0,2)=7 ofSection(6,3)=0 ofSection(0,3)=0");
        RUNS.says("Promise 10: 3 the least SECTION to which it is JOINED: itself", SEVEN, "ofSection(0,3)=0",
            "ofSection(6,3)=6");
        RUNS.says("Promise 10: 4 to what it is PINNED (NONE)", TWO, "ofSection(1,4)=NONE pin(1,20)=NONE",
            "ofSection(1,4)=20",
            "pin(1,400)=20 ofSection(1,4)=400 pin(1,NONE)=400 ofSection(1,4)=NONE ofSection(0,4)=NONE");
        RUNS.says("Promise 10: 5 whether that holds (1, 0)", TWO, "ofSection(1,5)=0 pin(1,60)=NONE ofSection(1,5)=1",
            "pin(1,61)=60 ofSection(1,5)=0 mark(61,true)=1 ofSection(1,5)=1 mark(61,false)=1 ofSection(1,5)=0",
            "ofSection(1,4)=61 pin(1,NONE)=61 ofSection(1,5)=0");
        RUNS.says("Promise 10: UNKNOWN", THREE, "ofSection(3,0)=UNKNOWN ofSection(-1,0)=UNKNOWN ofSection(2,0)=30",
            "ofSection(MIN,0)=UNKNOWN ofSection(MAX,0)=UNKNOWN");
        RUNS.says("Promise 10: UNKNOWN: of a full piece", SEVEN, "ofSection(7,0)=UNKNOWN ofSection(6,0)=70");
        RUNS.says("Promise 10: OUTSIDE: 0 and 5 are within", TWO, "ofSection(0,-1)=OUTSIDE ofSection(0,0)=10",
            "ofSection(0,5)=0",
            "ofSection(0,6)=OUTSIDE ofSection(0,MIN)=OUTSIDE ofSection(0,MAX)=OUTSIDE");
        RUNS.says("Promise 10: UNKNOWN ahead of OUTSIDE", TWO, "ofSection(2,6)=UNKNOWN ofSection(-1,-1)=UNKNOWN");
    }

    private static void ofTie() {
        RUNS.says("Promise 11: 0 a, 1 v, 2 b, 3 w, 4 EAR", SEVEN, "tie(6,19,0,1,9)=0 ofTie(0,0)=6 ofTie(0,1)=19",
            "ofTie(0,2)=0 ofTie(0,3)=1 ofTie(0,4)=9 ofTie(0,5)=0");
        RUNS.says("Promise 11: 5 what it is: 0 KEPT, 1 SPARE, 2 it CLASHES", TWO,
            "tie(0,8,1,9,1)=0 tie(0,10,1,8,1)=1 tie(0,8,1,8,1)=2 ofTie(0,5)=0 ofTie(1,5)=1 ofTie(2,5)=2");
        RUNS.says("Promise 11: UNKNOWN: no TIES", TWO, "ofTie(0,0)=UNKNOWN ofTie(0,5)=UNKNOWN ofTie(-1,5)=UNKNOWN");
        RUNS.says("Promise 11: UNKNOWN: the one behind the last", THREE, TWELVE_TIES,
            "ofTie(11,5)=2 ofTie(12,5)=UNKNOWN ofTie(-1,0)=UNKNOWN ofTie(MIN,0)=UNKNOWN ofTie(MAX,0)=UNKNOWN");
        RUNS.says("Promise 11: OUTSIDE: 0 and 5 are within", TWO, "tie(1,8,0,9,3)=0 ofTie(0,-1)=OUTSIDE ofTie(0,0)=1",
            "ofTie(0,5)=0",
            "ofTie(0,6)=OUTSIDE ofTie(0,MIN)=OUTSIDE ofTie(0,MAX)=OUTSIDE");
        RUNS.says("Promise 11: UNKNOWN ahead of OUTSIDE", TWO, "tie(1,8,0,9,3)=0 ofTie(1,6)=UNKNOWN",
            "ofTie(-1,-1)=UNKNOWN");
    }

    /** "An object is used for at most 512 calls": the 512th is answered as the first was. */
    private static void theLastCall() {
        Due due = RUNS.due();
        due.part("512 calls that change");
        PivotBeats x = new PivotBeats();
        for (int i = 0; i < 256; i++) {
            due.is("section(5), call " + (2 * i + 1), x.section(5), 0);
            due.is("clear(), call " + (2 * i + 2), x.clear(), 0);
        }
        due.part("512 calls, TIES that come and go");
        x = new PivotBeats();
        x.section(5);
        x.section(5);
        for (int i = 0; i < 170; i++) {
            due.is("tie, call " + (3 * i + 3), x.tie(0, 8, 1, 9, i % 10), 0);
            due.is("harm(), call " + (3 * i + 4), x.harm(), 0);
            due.is("untie(0), call " + (3 * i + 5), x.untie(0), 0);
        }
        due.part("512 calls that only ask");
        x = new PivotBeats();
        x.section(99);
        for (int i = 0; i < 510; i++) {
            due.is("pivots, call " + (i + 2), x.pivots(20 + i % 381, 20 + i % 381, 1048575, -1), 0);
        }
        due.is("whole(), call 512", x.whole(), 99000);
    }
}
