/** Promises 12 to 15, and what "Terms" says of KEPT TIES, RATIOS, OFF and RINGS: each edge by a run of its own. */
public final class RatiosEdgesTest {
    private static final Runs RUNS = new Runs("RatiosEdgesTest");
    private static final String TWO = "section(1)=0 section(2)=1";
    private static final String THREE = TWO + " section(3)=2";
    private static final String FOUR = THREE + " section(4)=3";
    private static final String SEVEN = FOUR + " section(5)=4 section(6)=5 section(7)=6";
    private static final String CHAIN = SEVEN + " tie(0,17,1,2,1)=0 tie(1,17,2,2,1)=1 tie(2,17,3,2,1)=2"
        + " tie(3,17,4,2,1)=3 tie(4,17,5,2,1)=4 tie(5,17,6,2,1)=5";

    public static void main(String[] args) {
        whatIsKept();
        whatIsSpareOrClashes();
        whatIsJoined();
        sharesInLeastTerms();
        tempo();
        ratio();
        off();
        ring();
        RUNS.end();
    }

    private static void whatIsKept() {
        RUNS.says("==== 2: the first TIE is KEPT", TWO, "tie(1,19,0,0,0)=0 ofTie(0,5)=0 many(2)=1 many(5)=1");
        RUNS.says("==== 2: by number: of three in a ring the last is not KEPT", THREE,
            "tie(0,8,1,8,1)=0 tie(1,8,2,8,1)=1 tie(0,8,2,8,1)=2 ofTie(0,5)=0 ofTie(1,5)=0 ofTie(2,5)=1",
            "untie(0)=2 ofTie(0,5)=0 ofTie(1,5)=0 many(2)=2 many(3)=0");
        RUNS.says("==== 2: not JOINED by those ahead, though by those behind", FOUR,
            "tie(0,8,3,8,1)=0 tie(1,8,2,8,1)=1 tie(2,8,3,9,1)=2 tie(0,8,1,8,1)=3 ofTie(0,5)=0 ofTie(1,5)=0",
            "ofTie(2,5)=0",
            "ofTie(3,5)=2");
        RUNS.says("==== 2: 7 SECTIONS have 6 KEPT TIES at most", CHAIN, "many(2)=6 tie(6,8,0,8,1)=6 tie(0,8,1,8,1)=7",
            "ofTie(6,5)=2 ofTie(7,5)=2 many(2)=6 many(4)=2 many(5)=1");
        RUNS.says("==== 2: as one that was KEPT goes, one behind it is KEPT", TWO,
            "tie(0,8,1,8,1)=0 tie(0,8,1,9,1)=1 tie(0,8,1,8,1)=2 ofTie(1,5)=2 ofTie(2,5)=1 tempo(1,0)=60",
            "untie(0)=2 ofTie(0,5)=0 ofTie(1,5)=2 tempo(1,0)=40");
        RUNS.says("==== 2: as one that is SPARE or CLASHES goes, the KEPT ones stay", TWO,
            "tie(0,8,1,10,1)=0 tie(1,10,0,8,1)=1 tie(0,8,1,9,1)=2 untie(1)=2 ofTie(0,5)=0 ofTie(1,5)=2 untie(1)=1",
            "ofTie(0,5)=0 tempo(1,0)=90");
    }

    private static void whatIsSpareOrClashes() {
        RUNS.says("==== 2: SPARE: the same TIE once more", TWO, "tie(0,6,1,8,1)=0 tie(0,6,1,8,1)=1 ofTie(1,5)=1",
            "many(3)=1");
        RUNS.says("==== 2: SPARE: the same TIE the other way about", TWO, "tie(0,6,1,8,1)=0 tie(1,8,0,6,1)=1",
            "ofTie(1,5)=1");
        RUNS.says("==== 2: SPARE: other VALUES of the same RATIO", TWO, "tie(0,6,1,8,1)=0 tie(0,14,1,16,1)=1",
            "tie(0,2,1,4,1)=2",
            "tie(0,2,1,7,1)=3 tie(1,13,0,11,1)=4 many(3)=4");
        RUNS.says("==== 2: CLASHES: the TIE turned, but not its VALUES", TWO, "tie(0,6,1,8,1)=0 tie(1,6,0,8,1)=1",
            "ofTie(1,5)=2");
        RUNS.says("==== 2: CLASHES: off by 2 alone", TWO, "tie(0,8,1,10,1)=0 tie(0,8,1,14,1)=1 tie(0,12,1,10,1)=2",
            "ofTie(1,5)=2 ofTie(2,5)=2");
        RUNS.says("==== 2: CLASHES: off by 3 alone", TWO, "tie(0,8,1,10,1)=0 tie(0,10,1,14,1)=1 tie(0,13,1,10,1)=2",
            "ofTie(1,5)=2 ofTie(2,5)=2");
        RUNS.says("==== 2: SPARE, CLASHES: by the RATIO along several TIES", THREE,
            "tie(1,8,0,10,1)=0 tie(1,8,2,9,1)=1 tie(0,18,2,17,1)=2 tie(0,8,2,9,1)=3 ofTie(2,5)=1 ofTie(3,5)=2");
        RUNS.says("==== 2: 12 TIES: 1 KEPT, 11 SPARE", TWO, "tie(0,8,1,8,1)=0 tie(0,0,1,0,1)=1 tie(0,0,1,3,1)=2",
            "tie(0,3,1,0,1)=3",
            "tie(1,1,0,1,1)=4 tie(1,2,0,2,1)=5 tie(0,4,1,7,1)=6 tie(0,12,1,15,1)=7 tie(0,16,1,19,1)=8",
            "tie(0,19,1,19,1)=9",
            "tie(0,18,1,18,1)=10 tie(0,17,1,17,1)=11 many(2)=1 many(3)=11 many(4)=0");
        RUNS.says("==== 2: 12 TIES: 1 KEPT, 11 that CLASH", TWO, "tie(0,8,1,8,1)=0 tie(0,0,1,1,1)=1 tie(0,0,1,2,1)=2",
            "tie(0,3,1,1,1)=3",
            "tie(1,1,0,2,1)=4 tie(1,2,0,3,1)=5 tie(0,4,1,8,1)=6 tie(0,12,1,8,1)=7 tie(0,16,1,17,1)=8",
            "tie(0,19,1,18,1)=9",
            "tie(0,18,1,17,1)=10 tie(0,17,1,18,1)=11 many(2)=1 many(3)=0 many(4)=11");
    }

    private static void whatIsJoined() {
        RUNS.says("==== 2: a SECTION is JOINED to itself", SEVEN, "ofSection(6,2)=1 ofSection(6,3)=6 ratio(6,6,0)=1",
            "ratio(6,6,1)=1",
            "many(5)=7");
        RUNS.says("==== 2: JOINED either way", THREE, "tie(1,8,0,8,1)=0 tie(1,8,2,8,1)=1 ofSection(0,2)=3",
            "ofSection(2,3)=0",
            "ratio(0,2,0)=1 ratio(2,0,0)=1");
        RUNS.says("==== 2: SECTION 0 needs no TIE", "section(1)=0 tempo(0,0)=60 nearest(0)=60 play(0)=40",
            "clock(0,1)=1000");
        RUNS.says("==== 2: JOINED, but not to SECTION 0", THREE, "tie(1,8,2,9,1)=0 ratio(1,2,0)=2 ratio(1,2,1)=3",
            "tempo(1,0)=NONE",
            "tempo(2,1)=NONE ofSection(2,3)=1 ofSection(0,2)=1 many(5)=2");
    }

    private static void sharesInLeastTerms() {
        RUNS.says("Terms: shares in least terms: RATIO of 48 by 96 TICKS", TWO, "tie(0,0,1,4,1)=0 ratio(0,1,0)=1",
            "ratio(0,1,1)=2",
            "ratio(1,0,0)=2 ratio(1,0,1)=1");
        RUNS.says("Terms: shares in least terms: START takes all of the lower number", TWO, "start(45)=60",
            "tie(0,8,1,9,1)=0",
            "tempo(1,0)=30 tempo(1,1)=1");
        RUNS.says("Terms: shares in least terms: START takes a part of it", TWO, "start(30)=60 tie(0,2,1,17,1)=0",
            "tempo(1,0)=5 tempo(1,1)=6");
        RUNS.says("Terms: shares in least terms: START takes nothing of it", TWO, "start(25)=60 tie(0,2,1,17,1)=0",
            "tempo(1,0)=25 tempo(1,1)=36");
        RUNS.says("Terms: shares in least terms: START of twos alone, of threes alone", TWO, "start(256)=60",
            "tie(0,2,1,17,1)=0",
            "tempo(1,0)=64 tempo(1,1)=9 start(243)=256 tempo(1,0)=27 tempo(1,1)=4 start(397)=243 tempo(1,0)=397",
            "tempo(1,1)=36");
        RUNS.says("Terms: shares in least terms: what falls out on the way", THREE,
            "tie(0,8,1,10,1)=0 tie(1,10,2,8,1)=1 ratio(0,2,0)=1 ratio(0,2,1)=1 tempo(2,0)=60 tempo(2,1)=1");
        RUNS.says("Terms: shares in least terms: OFF", TWO, "tie(0,0,1,4,1)=0 tie(0,2,1,8,1)=1 off(1,0)=3 off(1,1)=1");
    }

    private static void tempo() {
        RUNS.says("Promise 12: TEMPO by 6 TIES, the fastest", CHAIN, "start(400)=60 tempo(6,0)=870712934400",
            "tempo(6,1)=1");
        RUNS.says("Promise 12: TEMPO by 6 TIES, the slowest", SEVEN, "start(20)=60 tie(0,2,1,17,1)=0 tie(1,2,2,17,1)=1",
            "tie(2,2,3,17,1)=2 tie(3,2,4,17,1)=3 tie(4,2,5,17,1)=4 tie(5,2,6,17,1)=5 tempo(6,0)=5",
            "tempo(6,1)=544195584");
        RUNS.says("Promise 12: TEMPO of SECTION 0 is START", "section(1)=0 start(20)=60 tempo(0,0)=20 start(400)=20",
            "tempo(0,0)=400",
            "tempo(0,1)=1");
        RUNS.says("Promise 12: NONE: not JOINED to SECTION 0", THREE, "tempo(1,0)=NONE tempo(1,1)=NONE",
            "tie(1,8,2,8,1)=0",
            "tempo(1,0)=NONE tempo(2,0)=NONE tie(2,8,0,8,1)=1 tempo(1,0)=60 tempo(1,1)=1");
        RUNS.says("Promise 12: UNKNOWN", THREE, "tempo(3,0)=UNKNOWN tempo(-1,0)=UNKNOWN tempo(MIN,0)=UNKNOWN",
            "tempo(MAX,1)=UNKNOWN");
        RUNS.says("Promise 12: UNKNOWN: of a full piece", CHAIN, "tempo(7,0)=UNKNOWN tempo(5,1)=1");
        RUNS.says("Promise 12: OUTSIDE: which is 0 or 1", TWO, "tempo(0,-1)=OUTSIDE tempo(0,0)=60 tempo(0,1)=1",
            "tempo(0,2)=OUTSIDE",
            "tempo(0,MIN)=OUTSIDE tempo(0,MAX)=OUTSIDE");
        RUNS.says("Promise 12: UNKNOWN ahead of OUTSIDE, that ahead of NONE", TWO, "tempo(2,2)=UNKNOWN",
            "tempo(-1,-1)=UNKNOWN",
            "tempo(1,2)=OUTSIDE tempo(1,-1)=OUTSIDE tempo(1,1)=NONE");
    }

    private static void ratio() {
        RUNS.says("Promise 13: TICKS of w by TICKS of v from a to b, the other way about from b to a", TWO,
            "tie(1,8,0,10,1)=0 ratio(1,0,0)=3 ratio(1,0,1)=2 ratio(0,1,0)=2 ratio(0,1,1)=3");
        RUNS.says("Promise 13: from a SECTION to itself", CHAIN, "ratio(0,0,0)=1 ratio(0,0,1)=1 ratio(6,6,0)=1",
            "ratio(6,6,1)=1",
            "ratio(3,3,0)=1 ratio(3,3,1)=1");
        RUNS.says("Promise 13: along 6 TIES, and a part of them", CHAIN, "ratio(0,6,0)=2176782336 ratio(0,6,1)=1",
            "ratio(6,0,0)=1",
            "ratio(6,0,1)=2176782336 ratio(1,5,0)=1679616 ratio(5,1,1)=1679616 ratio(2,3,0)=36");
        RUNS.says("Promise 13: along 6 TIES of 9 by 64", SEVEN, "tie(0,1,1,18,1)=0 tie(1,1,2,18,1)=1 tie(2,1,3,18,1)=2",
            "tie(3,1,4,18,1)=3 tie(4,1,5,18,1)=4 tie(5,1,6,18,1)=5 ratio(0,6,0)=531441 ratio(0,6,1)=68719476736");
        RUNS.says("Promise 13: two sets that are JOINED from the middle of either", SEVEN, "tie(0,8,1,10,1)=0",
            "tie(1,8,2,10,1)=1 tie(3,8,4,12,1)=2",
            "tie(4,8,5,13,1)=3 ratio(3,5,1)=6 tie(1,9,4,8,1)=4 ratio(1,4,0)=3 ratio(1,4,1)=2 ratio(0,5,0)=3",
            "ratio(0,5,1)=4 ratio(2,3,0)=2 ratio(2,3,1)=1",
            "ratio(3,2,0)=1 ratio(3,2,1)=2 tempo(3,0)=270 tie(5,8,2,8,1)=5 ring(5)=58 tie(0,8,3,8,1)=6 ring(6)=85");
        RUNS.says("Promise 13: two sets that are JOINED, told from the later one", SEVEN, "tie(0,8,1,10,1)=0",
            "tie(3,8,4,12,1)=1 tie(4,8,1,10,1)=2",
            "ratio(0,3,0)=2 ratio(0,3,1)=1 tempo(3,0)=120 tempo(4,0)=60 ratio(3,0,1)=2 tie(0,8,3,8,1)=3 ring(3)=15",
            "off(3,0)=2");
        RUNS.says("Promise 13: TIES that are not KEPT have no say", TWO, "tie(0,8,1,10,1)=0 tie(0,8,1,9,1)=1",
            "ratio(0,1,0)=3",
            "ratio(0,1,1)=2");
        RUNS.says("Promise 13: START has no say", TWO, "tie(0,8,1,10,1)=0 start(400)=60 ratio(0,1,0)=3 ratio(0,1,1)=2");
        RUNS.says("Promise 13: NONE: they are not JOINED", FOUR, "ratio(0,1,0)=NONE ratio(0,1,1)=NONE tie(0,8,1,8,1)=0",
            "tie(2,8,3,8,1)=1 ratio(0,3,0)=NONE ratio(3,0,1)=NONE ratio(2,3,0)=1 ratio(1,2,0)=NONE");
        RUNS.says("Promise 13: UNKNOWN: a", TWO, "ratio(2,0,0)=UNKNOWN ratio(-1,0,0)=UNKNOWN ratio(MIN,0,0)=UNKNOWN",
            "ratio(MAX,0,0)=UNKNOWN");
        RUNS.says("Promise 13: UNKNOWN: b", TWO, "ratio(0,2,0)=UNKNOWN ratio(0,-1,0)=UNKNOWN ratio(0,MIN,0)=UNKNOWN",
            "ratio(0,MAX,0)=UNKNOWN");
        RUNS.says("Promise 13: UNKNOWN: both, the same", TWO, "ratio(2,2,0)=UNKNOWN ratio(-1,-1,1)=UNKNOWN");
        RUNS.says("Promise 13: OUTSIDE: which is 0 or 1", TWO, "ratio(0,0,-1)=OUTSIDE ratio(0,0,0)=1 ratio(0,0,1)=1",
            "ratio(0,0,2)=OUTSIDE",
            "ratio(0,0,MIN)=OUTSIDE ratio(0,0,MAX)=OUTSIDE");
        RUNS.says("Promise 13: UNKNOWN ahead of OUTSIDE, that ahead of NONE", TWO, "ratio(2,0,2)=UNKNOWN",
            "ratio(0,2,-1)=UNKNOWN",
            "ratio(0,1,2)=OUTSIDE ratio(0,1,-1)=OUTSIDE ratio(0,1,1)=NONE");
    }

    private static void off() {
        RUNS.says("Promise 14: RATIO from its a to its b, by TICKS of w and times TICKS of v", TWO,
            "tie(0,8,1,9,1)=0 tie(0,8,1,8,1)=1 tie(1,8,0,8,1)=2 off(1,0)=2 off(1,1)=3 off(2,0)=3 off(2,1)=2");
        RUNS.says("Promise 14: 1 by 1, if it is SPARE", TWO, "tie(0,8,1,9,1)=0 tie(1,9,0,8,1)=1 off(1,0)=1 off(1,1)=1");
        RUNS.says("Promise 14: the most between two", TWO, "tie(0,17,1,2,1)=0 tie(0,2,1,17,1)=1 off(1,0)=1296",
            "off(1,1)=1",
            "tie(1,17,0,2,1)=2 off(2,0)=1 off(2,1)=1296");
        RUNS.says("Promise 14: the most along 6", CHAIN, "tie(6,17,0,2,1)=6 off(6,0)=1 off(6,1)=78364164096",
            "tie(0,2,6,17,1)=7 off(7,0)=78364164096 off(7,1)=1");
        RUNS.says("Promise 14: START has no say", TWO, "tie(0,8,1,9,1)=0 tie(0,8,1,8,1)=1 start(20)=60 off(1,0)=2",
            "off(1,1)=3");
        RUNS.says("Promise 14: of SECTIONS that are not JOINED to SECTION 0", THREE, "tie(1,8,2,9,1)=0",
            "tie(2,8,1,9,1)=1",
            "off(1,0)=9 off(1,1)=4");
        RUNS.says("Promise 14: NONE: it is KEPT", TWO, "tie(0,8,1,9,1)=0 off(0,0)=NONE off(0,1)=NONE");
        RUNS.says("Promise 14: NONE: it is KEPT from now on", TWO, "tie(0,8,1,9,1)=0 tie(0,8,1,8,1)=1 off(1,0)=2",
            "untie(0)=1 off(0,0)=NONE");
        RUNS.says("Promise 14: UNKNOWN", TWO, "off(0,0)=UNKNOWN tie(0,8,1,9,1)=0 tie(0,8,1,9,1)=1 off(2,0)=UNKNOWN",
            "off(-1,0)=UNKNOWN",
            "off(MIN,0)=UNKNOWN off(MAX,1)=UNKNOWN off(1,0)=1");
        RUNS.says("Promise 14: OUTSIDE: which is 0 or 1", TWO, "tie(0,8,1,9,1)=0 tie(0,8,1,9,1)=1 off(1,-1)=OUTSIDE",
            "off(1,2)=OUTSIDE",
            "off(1,MIN)=OUTSIDE off(1,MAX)=OUTSIDE");
        RUNS.says("Promise 14: UNKNOWN ahead of OUTSIDE, that ahead of NONE", TWO, "tie(0,8,1,9,1)=0 off(1,2)=UNKNOWN",
            "off(-1,-1)=UNKNOWN",
            "off(0,2)=OUTSIDE off(0,-1)=OUTSIDE off(0,1)=NONE");
    }

    private static void ring() {
        RUNS.says("Promise 15: the least RING: a KEPT TIE and itself", TWO, "tie(0,8,1,9,1)=0 tie(0,8,1,9,1)=1",
            "tie(1,8,0,8,1)=2",
            "ring(1)=3 ring(2)=5");
        RUNS.says("Promise 15: the largest RING: 6 KEPT TIES and itself", CHAIN, "tie(6,8,0,8,1)=6 tie(0,8,6,8,1)=7",
            "ring(6)=127 ring(7)=191");
        RUNS.says("Promise 15: bit 11", CHAIN, "tie(0,8,1,8,1)=6 tie(2,8,1,8,1)=7 tie(3,8,1,8,1)=8 tie(6,8,4,8,1)=9",
            "tie(5,8,4,8,1)=10",
            "tie(1,8,6,8,1)=11 ring(6)=65 ring(7)=130 ring(8)=262 ring(9)=560 ring(10)=1040 ring(11)=2110");
        RUNS.says("Promise 15: KEPT TIES beside the way are not in it", FOUR, "tie(0,8,1,8,1)=0 tie(0,8,2,8,1)=1",
            "tie(0,8,3,8,1)=2",
            "tie(2,8,3,9,1)=3 ring(3)=14 tie(1,8,2,8,1)=4 ring(4)=19");
        RUNS.says("Promise 15: TIES that are not KEPT are in no other RING", THREE, "tie(0,8,1,8,1)=0",
            "tie(0,8,1,8,1)=1 tie(1,8,2,8,1)=2",
            "tie(0,8,2,8,1)=3 tie(2,8,0,9,1)=4 ring(3)=13 ring(4)=21");
        RUNS.says("Promise 15: of one that is SPARE, too", TWO, "tie(0,8,1,9,1)=0 tie(0,8,1,9,1)=1 ofTie(1,5)=1",
            "ring(1)=3");
        RUNS.says("Promise 15: the numbers of now", THREE, "tie(0,8,1,8,1)=0 tie(0,8,1,8,1)=1 tie(1,8,2,8,1)=2",
            "tie(2,8,0,8,1)=3 ring(3)=13",
            "untie(1)=3 ring(2)=7 untie(0)=2 ring(1)=NONE");
        RUNS.says("Promise 15: NONE: it is KEPT", TWO, "tie(0,8,1,9,1)=0 ring(0)=NONE");
        RUNS.says("Promise 15: UNKNOWN", TWO, "ring(0)=UNKNOWN tie(0,8,1,9,1)=0 tie(0,8,1,9,1)=1 ring(2)=UNKNOWN",
            "ring(-1)=UNKNOWN",
            "ring(MIN)=UNKNOWN ring(MAX)=UNKNOWN ring(12)=UNKNOWN");
    }
}
