/** Promises 24 to 30, and what "Terms" says of the CLOCK and of PIVOTS: each edge by a run of its own. */
public final class ClockEdgesTest {
    private static final Runs RUNS = new Runs("ClockEdgesTest");
    private static final String ONE = "section(1)=0";
    private static final String TWO = ONE + " section(1)=1";
    private static final String THREE = TWO + " section(1)=2";
    private static final String SEVEN = THREE + " section(1)=3 section(1)=4 section(1)=5 section(1)=6";
    /** 1 BEAT each; SECTION 1 lasts 27 thousandths, SECTION 2 none, SECTION 3 as long as SECTION 0. */
    private static final String ONE_OF_NOTHING = THREE + " section(1)=3 tie(0,17,1,2,1)=0 tie(1,17,2,2,1)=1 tie(0,8,3,8,1)=2";
    /** 99 BEATS each, each SECTION 36 times as slow as the one ahead of it, by the slowest START. */
    private static final String THE_LONGEST = "section(99)=0 section(99)=1 section(99)=2 section(99)=3 section(99)=4"
        + " section(99)=5 section(99)=6 start(20)=60 tie(0,2,1,17,1)=0 tie(1,2,2,17,1)=1 tie(2,2,3,17,1)=2"
        + " tie(3,2,4,17,1)=3 tie(4,2,5,17,1)=4 tie(5,2,6,17,1)=5";

    public static void main(String[] args) {
        clock();
        whole();
        where();
        within();
        pivot();
        pivotRefusals();
        pivots();
        pivotsInBounds();
        pivotsRefusals();
        many();
        RUNS.end();
    }

    private static void clock() {
        RUNS.says("==== 4: one behind another, by number, however they are tied", "section(4)=0 section(5)=1",
            "section(6)=2",
            "tie(0,8,2,8,1)=0 tie(2,8,1,8,1)=1 clock(0,0)=0 clock(0,1)=4000 clock(1,0)=4000 clock(1,1)=5000",
            "clock(2,0)=9000 clock(2,1)=6000");
        RUNS.says("==== 4: SECTIONS that are not JOINED to SECTION 0 take no time", THREE, "tie(0,8,2,8,1)=0",
            "clock(2,0)=1000 clock(1,0)=NONE",
            "tie(1,8,2,8,1)=1 clock(2,0)=2000 clock(1,0)=1000");
        RUNS.says("==== 4: cut", ONE, "start(70)=60 clock(0,1)=857 start(399)=70 clock(0,1)=150 start(397)=399",
            "clock(0,1)=151");
        RUNS.says("==== 4: each is cut, not all together", THREE, "start(69)=60 tie(0,8,1,8,1)=0 tie(0,8,2,8,1)=1",
            "clock(0,1)=869 clock(1,0)=869",
            "clock(2,0)=1738 whole()=2607");
        RUNS.says("Promise 24: the shortest of SECTION 0", ONE, "start(400)=60 clock(0,1)=150");
        RUNS.says("Promise 24: the longest of SECTION 0", "section(99)=0 start(20)=60 clock(0,1)=297000");
        RUNS.says("Promise 24: one that lasts no thousandth", ONE_OF_NOTHING, "clock(1,0)=1000 clock(1,1)=27",
            "clock(2,0)=1027 clock(2,1)=0",
            "clock(3,0)=1027 clock(3,1)=1000");
        RUNS.says("Promise 24: 1 thousandth, by a TEMPO of 58320, and none, by 61440", SEVEN, "tie(0,17,1,2,1)=0",
            "tie(1,17,2,10,1)=1",
            "tie(2,13,3,8,1)=2 tempo(3,0)=58320 clock(3,1)=1 tie(0,16,4,0,1)=3 tie(4,16,5,0,1)=4 tie(5,12,6,4,1)=5",
            "tempo(6,0)=61440 clock(6,1)=0");
        RUNS.says("Promise 24: the longest of all", THE_LONGEST, "clock(0,0)=0 clock(0,1)=297000 clock(1,0)=297000",
            "clock(1,1)=10692000",
            "clock(6,0)=18471552957000 clock(6,1)=646504353792000");
        RUNS.says("Promise 24: NONE: it is not JOINED to SECTION 0", THREE, "clock(1,0)=NONE clock(1,1)=NONE",
            "tie(1,8,2,8,1)=0 clock(2,1)=NONE");
        RUNS.says("Promise 24: UNKNOWN", TWO, "clock(2,0)=UNKNOWN clock(-1,0)=UNKNOWN clock(MIN,1)=UNKNOWN",
            "clock(MAX,1)=UNKNOWN clock(0,1)=1000");
        RUNS.says("Promise 24: UNKNOWN: of a full piece", SEVEN, "clock(7,0)=UNKNOWN clock(6,0)=NONE");
        RUNS.says("Promise 24: OUTSIDE: what is 0 or 1", ONE, "clock(0,-1)=OUTSIDE clock(0,0)=0 clock(0,1)=1000",
            "clock(0,2)=OUTSIDE",
            "clock(0,MIN)=OUTSIDE clock(0,MAX)=OUTSIDE");
        RUNS.says("Promise 24: UNKNOWN ahead of OUTSIDE, that ahead of NONE", TWO, "clock(2,2)=UNKNOWN",
            "clock(-1,-1)=UNKNOWN clock(1,2)=OUTSIDE",
            "clock(1,-1)=OUTSIDE clock(1,1)=NONE");
    }

    private static void whole() {
        RUNS.says("Promise 25: nothing", "whole()=0", ONE, "whole()=1000 clear()=0 whole()=0");
        RUNS.says("Promise 25: the least of one SECTION", ONE, "start(400)=60 whole()=150");
        RUNS.says("Promise 25: SECTIONS that are not JOINED to SECTION 0 are not in it", SEVEN, "whole()=1000",
            "tie(5,8,6,8,1)=0 whole()=1000",
            "tie(6,8,0,8,1)=1 whole()=3000");
        RUNS.says("Promise 25: the longest", THE_LONGEST, "whole()=664975906749000");
    }

    private static void where() {
        RUNS.says("Promise 26: the whole is over: no SECTIONS", "where(0,0)=NONE where(0,1)=NONE",
            "where(100000000,0)=NONE");
        RUNS.says("Promise 26: the first moment of the first SECTION", ONE, "where(0,0)=0 where(0,1)=0 where(1,1)=1");
        RUNS.says("Promise 26: as one ends another one begins", "section(2)=0 section(3)=1 tie(0,8,1,8,1)=0",
            "where(1999,0)=0 where(1999,1)=1999",
            "where(2000,0)=1 where(2000,1)=0 where(2001,1)=1");
        RUNS.says("Promise 26: NONE: the whole is over: the last thousandth, and the first behind it",
            "section(2)=0 section(3)=1 tie(0,8,1,8,1)=0 where(4999,0)=1 where(4999,1)=2999 where(5000,0)=NONE",
            "where(5000,1)=NONE where(5001,0)=NONE");
        RUNS.says("Promise 26: SECTIONS that are not JOINED to SECTION 0 are not played", THREE, "tie(0,8,2,8,1)=0",
            "where(999,0)=0 where(1000,0)=2",
            "where(1000,1)=0 where(1999,0)=2 where(2000,0)=NONE");
        RUNS.says("Promise 26: one that lasts no thousandth ends as it begins", ONE_OF_NOTHING, "where(1026,0)=1",
            "where(1026,1)=26 where(1027,0)=3",
            "where(1027,1)=0 where(2026,0)=3 where(2027,0)=NONE");
        RUNS.says("Promise 26: the last one lasts no thousandth", THREE, "tie(0,17,1,2,1)=0 tie(1,17,2,2,1)=1",
            "where(1026,0)=1 where(1027,0)=NONE");
        RUNS.says("Promise 26: the last moment that may be asked for", THE_LONGEST, "where(100000000,0)=2",
            "where(100000000,1)=89011000",
            "where(10988999,0)=1 where(10988999,1)=10691999 where(10989000,0)=2 where(10989000,1)=0");
        RUNS.says("Promise 26: NONE: the last moment, the whole is over", ONE, "where(100000000,0)=NONE",
            "where(100000000,1)=NONE");
        RUNS.says("Promise 26: OUTSIDE: t", ONE, "where(-1,0)=OUTSIDE where(-1,1)=OUTSIDE where(100000001,0)=OUTSIDE",
            "where(100000001,1)=OUTSIDE",
            "where(MIN,0)=OUTSIDE where(MAX,0)=OUTSIDE");
        RUNS.says("Promise 26: OUTSIDE: t, though the piece goes on", THE_LONGEST, "where(100000001,0)=OUTSIDE",
            "where(MAX,1)=OUTSIDE");
        RUNS.says("Promise 26: OUTSIDE: what is 0 or 1", ONE, "where(0,-1)=OUTSIDE where(0,2)=OUTSIDE",
            "where(0,MIN)=OUTSIDE where(0,MAX)=OUTSIDE");
        RUNS.says("Promise 26: OUTSIDE ahead of NONE", "where(0,2)=OUTSIDE where(0,-1)=OUTSIDE where(-1,0)=OUTSIDE",
            ONE, "where(1000,2)=OUTSIDE");
    }

    private static void within() {
        RUNS.says("Promise 27: the least START is 20", "section(4)=0 within(12000)=20 within(12001)=20",
            "within(100000000)=20");
        RUNS.says("Promise 27: one more than the least START", "section(4)=0 within(11999)=21 within(11428)=21",
            "within(11427)=22");
        RUNS.says("Promise 27: the largest START is 400", "section(4)=0 within(600)=400 within(601)=399");
        RUNS.says("Promise 27: NONE: by none", "section(4)=0 within(599)=NONE within(0)=NONE");
        RUNS.says("Promise 27: no longer than t: just so long is within", ONE, "within(1000)=60 within(999)=61",
            "within(1015)=60 within(1016)=59");
        RUNS.says("Promise 27: by what is cut", ONE, "within(150)=398 within(149)=NONE within(151)=395");
        RUNS.says("Promise 27: nothing lasts no longer than 0", "within(0)=20");
        RUNS.says("Promise 27: it leaves START as it is", ONE, "start(77)=60 within(1000)=60 many(8)=77 whole()=779");
        RUNS.says("Promise 27: whatever START is", ONE, "within(1000)=60 start(400)=60 within(1000)=60 start(20)=400",
            "within(1000)=60");
        RUNS.says("Promise 27: SECTIONS that are not JOINED to SECTION 0 have no say", TWO, "within(1000)=60",
            "tie(0,8,1,8,1)=0 within(1000)=120");
        RUNS.says("Promise 27: the last t", "section(1)=0 section(99)=1 section(1)=2 tie(0,2,2,17,1)=0",
            "tie(2,2,1,17,1)=1 start(20)=60",
            "whole()=385023000 within(100000000)=78 start(78)=20 whole()=98723845 start(77)=78 whole()=100005972");
        RUNS.says("Promise 27: NONE: the last t is not enough", THE_LONGEST, "within(100000000)=NONE");
        RUNS.says("Promise 27: OUTSIDE: 0 is within, -1 is not", "within(-1)=OUTSIDE within(0)=20 within(MIN)=OUTSIDE");
        RUNS.says("Promise 27: OUTSIDE: 100000000 is within, 100000001 is not", "within(100000000)=20",
            "within(100000001)=OUTSIDE within(MAX)=OUTSIDE");
    }

    private static void pivot() {
        RUNS.says("Promise 28: how many such twos (k -1): by the same TEMPO", ONE, "pivot(0,60,-1)=30 pivot(0,60,0)=0",
            "pivot(0,60,1)=3",
            "pivot(0,60,2)=101 pivot(0,60,28)=1916 pivot(0,60,29)=1919");
        RUNS.says("Promise 28: NONE: there are not so many", ONE, "pivot(0,60,30)=NONE pivot(0,60,399)=NONE",
            "pivot(0,61,0)=NONE");
        RUNS.says("Promise 28: how many such twos (k -1): none", ONE, "pivot(0,61,-1)=0 pivot(0,400,-1)=0");
        RUNS.says("Promise 28: TEMPO 20", ONE, "pivot(0,20,-1)=16 pivot(0,20,0)=5 start(20)=60 pivot(0,20,-1)=30");
        RUNS.says("Promise 28: TEMPO 400", ONE, "start(400)=60 pivot(0,400,-1)=30 pivot(0,400,29)=1919 start(100)=400",
            "pivot(0,400,-1)=18 pivot(0,400,0)=800");
        RUNS.says("Promise 28: by v, then by w", ONE, "pivot(0,30,0)=4 pivot(0,30,1)=7 pivot(0,30,2)=105",
            "pivot(0,30,3)=206 pivot(0,30,4)=304 pivot(0,30,5)=307");
        RUNS.says("Promise 28: TEMPO of the SECTION is a share", TWO, "start(61)=60 tie(0,6,1,8,1)=0 tempo(1,1)=3",
            "pivot(1,61,-1)=16 pivot(1,61,0)=402",
            "pivot(1,61,15)=1914 pivot(1,61,16)=NONE pivot(1,20,-1)=0");
        RUNS.says("Promise 28: by the widest two, from below 20", TWO, "start(20)=60 tie(0,4,1,8,1)=0 tempo(1,0)=10",
            "pivot(1,360,-1)=1 pivot(1,360,0)=1702",
            "pivot(1,360,1)=NONE");
        RUNS.says("Promise 28: by the widest two, from above 400", TWO, "start(400)=60 tie(0,17,1,2,1)=0",
            "tempo(1,0)=14400 pivot(1,400,-1)=1 pivot(1,400,0)=217",
            "pivot(1,400,1)=NONE");
        RUNS.says("Promise 28: by 6 TIES", SEVEN, "tie(0,17,1,2,1)=0 tie(1,17,2,2,1)=1 tie(2,17,3,2,1)=2",
            "tie(3,17,4,2,1)=3 tie(4,17,5,2,1)=4 tie(5,17,6,2,1)=5",
            "pivot(6,60,-1)=0 pivot(6,60,0)=NONE pivot(0,60,-1)=30");
        RUNS.says("Promise 28: TIES need not be free", "section(1)=0 section(1)=1 tie(0,8,1,8,1)=0 tie(0,8,1,8,1)=1",
            "tie(0,8,1,8,1)=2 tie(0,8,1,8,1)=3",
            "tie(0,8,1,8,1)=4 tie(0,8,1,8,1)=5 tie(0,8,1,8,1)=6 tie(0,8,1,8,1)=7 tie(0,8,1,8,1)=8 tie(0,8,1,8,1)=9",
            "tie(0,8,1,8,1)=10",
            "tie(0,8,1,8,1)=11 pivot(1,60,-1)=30");
    }

    private static void pivotRefusals() {
        RUNS.says("Promise 28: UNKNOWN", TWO, "pivot(2,60,0)=UNKNOWN pivot(-1,60,0)=UNKNOWN pivot(MIN,60,0)=UNKNOWN",
            "pivot(MAX,60,0)=UNKNOWN");
        RUNS.says("Promise 28: OUTSIDE: q", ONE, "pivot(0,19,-1)=OUTSIDE pivot(0,401,-1)=OUTSIDE",
            "pivot(0,MIN,-1)=OUTSIDE pivot(0,MAX,-1)=OUTSIDE",
            "pivot(0,20,-1)=16 pivot(0,400,-1)=0");
        RUNS.says("Promise 28: OUTSIDE: k", ONE, "pivot(0,60,-2)=OUTSIDE pivot(0,60,-1)=30 pivot(0,60,399)=NONE",
            "pivot(0,60,400)=OUTSIDE",
            "pivot(0,60,MIN)=OUTSIDE pivot(0,60,MAX)=OUTSIDE pivot(0,60,NONE)=OUTSIDE");
        RUNS.says("Promise 28: STATE: it is not JOINED to SECTION 0", THREE, "pivot(1,60,-1)=STATE",
            "pivot(1,60,0)=STATE pivot(1,61,399)=STATE",
            "tie(1,8,2,8,1)=0 pivot(2,60,0)=STATE tie(0,8,1,8,1)=1 pivot(2,60,0)=0");
        RUNS.says("Promise 28: UNKNOWN ahead of OUTSIDE", TWO, "pivot(2,19,0)=UNKNOWN pivot(2,60,400)=UNKNOWN",
            "pivot(-1,401,-2)=UNKNOWN");
        RUNS.says("Promise 28: OUTSIDE ahead of STATE", TWO, "pivot(1,19,0)=OUTSIDE pivot(1,401,0)=OUTSIDE",
            "pivot(1,60,-2)=OUTSIDE pivot(1,60,400)=OUTSIDE");
        RUNS.says("Promise 28: STATE ahead of NONE", TWO, "pivot(1,60,30)=STATE pivot(1,61,0)=STATE");
    }

    private static void pivots() {
        RUNS.says("Promise 29: none from a TEMPO to itself, by any set", "pivots(60,60,0,-1)=0 pivots(60,60,0,0)=NONE",
            "pivots(60,60,ALL,-1)=0",
            "pivots(60,60,ALL,4)=NONE pivots(20,20,0,-1)=0 pivots(400,400,0,-1)=0");
        RUNS.says("Promise 29: one", "pivots(60,90,ALL,-1)=1 pivots(60,90,ALL,0)=2 pivots(60,90,ALL,1)=NONE",
            "pivots(60,90,ALL,4)=NONE");
        RUNS.says("Promise 29: 5 at most: 5 times 3 by 2", "pivots(32,243,1280,-1)=5 pivots(32,243,1280,0)=810",
            "pivots(32,243,1280,1)=810",
            "pivots(32,243,1280,2)=810 pivots(32,243,1280,3)=810 pivots(32,243,1280,4)=810 pivots(243,32,1280,-1)=5",
            "pivots(243,32,1280,4)=1008");
        RUNS.says("Promise 29: 5 at most: 6 are too many", "pivots(20,160,1312,-1)=NONE pivots(20,160,1312,0)=NONE",
            "pivots(20,160,1312,4)=NONE",
            "pivots(20,80,1312,-1)=4 pivots(20,80,1312,3)=810");
        RUNS.says("Promise 29: NONE: there are not so many", "pivots(20,320,4352,-1)=4 pivots(20,320,4352,3)=1208",
            "pivots(20,320,4352,4)=NONE");
        RUNS.says("Promise 29: NONE: there is no such row", "pivots(60,61,ALL,-1)=NONE pivots(60,61,ALL,0)=NONE",
            "pivots(60,61,ALL,4)=NONE",
            "pivots(20,400,ALL,-1)=NONE");
        RUNS.says("Promise 29: NONE: no VALUES, one VALUE alone", "pivots(60,120,0,-1)=NONE pivots(60,120,1,-1)=NONE",
            "pivots(60,120,524288,-1)=NONE");
        RUNS.says("Promise 29: VALUES 0 and 19, bits 0 and 19", "pivots(20,320,524289,-1)=1",
            "pivots(20,320,524289,0)=1900 pivots(320,20,524289,0)=19");
        RUNS.says("Promise 29: two VALUES of as many TICKS lead nowhere", "pivots(60,120,9,-1)=NONE",
            "pivots(60,60,9,-1)=0");
        RUNS.says("Promise 29: of several the first as a row", "pivots(60,120,ALL,0)=400 pivots(60,30,ALL,0)=4",
            "pivots(60,40,ALL,0)=1 pivots(60,180,ALL,0)=402");
        RUNS.says("Promise 29: the fewest, though a longer row would be ahead of it", "pivots(60,120,4368,0)=804",
            "pivots(60,120,4368,-1)=1",
            "pivots(60,240,4368,-1)=1 pivots(60,240,4368,0)=1204");
        RUNS.says("Promise 29: each number that is told counts, whatever was asked ahead of it",
            "pivots(60,90,ALL,0)=2 pivots(45,90,ALL,0)=400",
            "pivots(45,30,ALL,0)=1 pivots(45,30,768,0)=809 pivots(60,30,768,-1)=NONE pivots(60,40,768,0)=809",
            "pivots(60,40,1024,-1)=NONE",
            "pivots(60,40,1280,0)=1008 pivots(60,60,1280,-1)=0 pivots(60,40,1280,-1)=1");
        RUNS.says("Promise 29: the widest PIVOTS: 64 by 9, 144 by 9", "pivots(45,320,262146,-1)=1",
            "pivots(45,320,262146,0)=1801 pivots(320,45,262146,0)=118",
            "pivots(20,320,262148,0)=1802 pivots(320,20,262148,0)=218");
        RUNS.says("Promise 29: the piece has no say", SEVEN, "start(400)=60", "pivots(60,90,ALL,0)=2 clear()=0",
            "pivots(60,90,ALL,0)=2");
    }

    private static void pivotsInBounds() {
        // VALUES 1, 4, 12, 16: 4 by 3 and then a half, or an eighth and then 16 by 3.
        RUNS.says("==== 4: 400 at most on the way: 400 is within", "pivots(300,200,69650,-1)=2",
            "pivots(300,200,69650,0)=401 pivots(300,200,69650,1)=1216");
        RUNS.says("==== 4: 400 at most on the way: 404 is not", "pivots(303,202,69650,-1)=2",
            "pivots(303,202,69650,0)=416 pivots(303,202,69650,1)=1201");
        // VALUES 2, 6, 8, 13: halves and thirds.
        RUNS.says("==== 4: 20 at least on the way: 20 is within", "pivots(40,30,8516,-1)=3 pivots(40,30,8516,0)=206",
            "pivots(40,30,8516,1)=806",
            "pivots(40,30,8516,2)=206");
        RUNS.says("==== 4: 20 at least on the way: 18 is not", "pivots(36,27,8516,-1)=3 pivots(36,27,8516,0)=806",
            "pivots(36,27,8516,1)=206",
            "pivots(36,27,8516,2)=206");
        // VALUES 2, 13, 16: 18 times, 24 times, 4 by 3.
        RUNS.says("==== 4: out of bounds either way: 396 is within, 432 is not, nor 18", "pivots(22,297,73732,-1)=2",
            "pivots(22,297,73732,0)=1302",
            "pivots(22,297,73732,1)=1316 pivots(24,324,73732,-1)=NONE pivots(324,24,73732,-1)=NONE",
            "pivots(297,22,73732,0)=1613",
            "pivots(297,22,73732,1)=213");
        // VALUES 2, 4, 10, 14: a third of 30 and a quarter of it are too slow, those of 300 are not.
        RUNS.says("==== 4: 20 at least on the way: 10 and 7 1/2 are not", "pivots(30,20,17428,-1)=2",
            "pivots(30,20,17428,0)=1004 pivots(30,20,17428,1)=1014",
            "pivots(300,200,17428,-1)=2 pivots(300,200,17428,0)=204 pivots(300,200,17428,1)=1410");
        RUNS.says("==== 4: 20 and 400 ahead and behind", "pivots(20,40,ALL,0)=400 pivots(40,20,ALL,0)=4",
            "pivots(400,200,ALL,0)=4 pivots(200,400,ALL,0)=400",
            "pivots(400,25,ALL,-1)=1 pivots(25,400,ALL,-1)=1 pivots(25,400,ALL,0)=1600 pivots(400,25,ALL,0)=16");
        RUNS.says("==== 4: TEMPOS on the way need not be whole: 303 by 8", "pivots(303,202,69650,0)=416",
            "pivots(303,202,69650,1)=1201");
    }

    private static void pivotsRefusals() {
        RUNS.says("Promise 29: OUTSIDE: p", "pivots(19,60,ALL,-1)=OUTSIDE pivots(401,60,ALL,-1)=OUTSIDE",
            "pivots(MIN,60,ALL,-1)=OUTSIDE pivots(MAX,60,ALL,-1)=OUTSIDE");
        RUNS.says("Promise 29: OUTSIDE: q", "pivots(60,19,ALL,-1)=OUTSIDE pivots(60,401,ALL,-1)=OUTSIDE",
            "pivots(60,MIN,ALL,-1)=OUTSIDE pivots(60,MAX,ALL,-1)=OUTSIDE");
        RUNS.says("Promise 29: OUTSIDE: p and q, the same", "pivots(19,19,ALL,-1)=OUTSIDE",
            "pivots(401,401,0,-1)=OUTSIDE pivots(0,0,0,-1)=OUTSIDE pivots(0,0,0,0)=OUTSIDE");
        RUNS.says("Promise 29: OUTSIDE: set", "pivots(60,60,-1,-1)=OUTSIDE pivots(60,60,1048576,-1)=OUTSIDE",
            "pivots(60,60,1048575,-1)=0 pivots(60,60,0,-1)=0",
            "pivots(60,60,MIN,-1)=OUTSIDE pivots(60,60,MAX,-1)=OUTSIDE");
        RUNS.says("Promise 29: OUTSIDE: k", "pivots(60,90,ALL,-2)=OUTSIDE pivots(60,90,ALL,-1)=1",
            "pivots(60,90,ALL,4)=NONE pivots(60,90,ALL,5)=OUTSIDE",
            "pivots(60,90,ALL,MIN)=OUTSIDE pivots(60,90,ALL,MAX)=OUTSIDE pivots(60,90,ALL,NONE)=OUTSIDE");
        RUNS.says("Promise 29: OUTSIDE ahead of NONE", "pivots(60,61,ALL,5)=OUTSIDE pivots(60,61,ALL,-2)=OUTSIDE",
            "pivots(60,61,1048576,0)=OUTSIDE pivots(60,61,ALL,0)=NONE");
        RUNS.says("Promise 29: a call that is refused leaves the next one its row", "pivots(60,90,ALL,0)=2",
            "pivots(60,401,ALL,0)=OUTSIDE pivots(60,90,ALL,0)=2",
            "pivots(60,90,-1,0)=OUTSIDE pivots(60,90,ALL,-1)=1");
    }

    private static void many() {
        RUNS.says("Promise 30: of an empty piece", "many(0)=0 many(1)=0 many(2)=0 many(3)=0 many(4)=0 many(5)=0",
            "many(6)=8 many(7)=0 many(8)=60");
        RUNS.says("Promise 30: 0 SECTIONS, 5 sets of them, the most", SEVEN, "many(0)=7 many(5)=7 section(1)=FULL",
            "many(0)=7");
        RUNS.says("Promise 30: 5 sets of SECTIONS, from 7 to 1", SEVEN, "tie(6,8,5,8,1)=0 many(5)=6 tie(3,8,4,8,1)=1",
            "many(5)=5 tie(4,8,6,8,1)=2 many(5)=4",
            "tie(5,8,3,8,1)=3 many(5)=4 tie(1,8,2,8,1)=4 many(5)=3 tie(2,8,0,8,1)=5 many(5)=2 tie(0,8,6,8,1)=6",
            "many(5)=1 many(2)=6 many(3)=1 untie(6)=6 many(5)=2");
        RUNS.says("Promise 30: 1 TIES, 2 KEPT, 3 SPARE, 4 that CLASH: 12 in all", THREE, "tie(0,8,1,8,1)=0",
            "tie(0,8,1,8,1)=1 tie(0,8,1,9,1)=2 tie(0,8,1,8,1)=3",
            "tie(0,8,1,9,1)=4 tie(0,8,1,10,1)=5 tie(1,8,2,8,1)=6 tie(0,8,2,8,1)=7 tie(0,8,2,9,1)=8 tie(2,8,1,8,1)=9",
            "tie(2,8,1,9,1)=10 tie(1,9,0,8,1)=11",
            "many(1)=12 many(2)=2 many(3)=4 many(4)=6 many(5)=1");
        RUNS.says("Promise 30: 6 MARKS: none and 16", "mark(40,false)=1 mark(60,false)=1 mark(80,false)=1",
            "mark(100,false)=1 mark(120,false)=1 mark(144,false)=1",
            "mark(176,false)=1 many(6)=1 mark(208,false)=1 many(6)=0 mark(20,true)=1 mark(21,true)=1 mark(22,true)=1",
            "mark(23,true)=1 mark(24,true)=1",
            "mark(25,true)=1 mark(26,true)=1 mark(27,true)=1 mark(28,true)=1 mark(29,true)=1 mark(30,true)=1",
            "mark(31,true)=1 mark(32,true)=1 mark(33,true)=1",
            "mark(34,true)=1 many(6)=15 mark(35,true)=1 many(6)=16 mark(36,true)=FULL many(6)=16");
        RUNS.says("Promise 30: 7 PINS that hold", THREE, "pin(0,60)=NONE pin(1,61)=NONE pin(2,80)=NONE many(7)=2",
            "mark(61,true)=1 many(7)=3 mark(60,false)=1 many(7)=2",
            "pin(2,NONE)=80 many(7)=1");
        RUNS.says("Promise 30: 8 START: the least and the most", "start(20)=60 many(8)=20 start(400)=20 many(8)=400");
        RUNS.says("Promise 30: OUTSIDE", "many(-1)=OUTSIDE many(9)=OUTSIDE many(MIN)=OUTSIDE many(MAX)=OUTSIDE",
            "many(8)=60 many(0)=0");
    }
}
