/** Promises 16 to 23, and what "Terms" says of MARKS, PINS and PLAYS: each edge by a run of its own. */
public final class PlaysEdgesTest {
    private static final Runs RUNS = new Runs("PlaysEdgesTest");
    private static final String ONE = "section(1)=0";
    private static final String TWO = ONE + " section(2)=1";
    private static final String THREE = TWO + " section(3)=2";
    private static final String SEVEN = THREE + " section(4)=3 section(5)=4 section(6)=5 section(7)=6";
    private static final String NO_MARKS = "mark(40,false)=1 mark(60,false)=1 mark(80,false)=1 mark(100,false)=1"
        + " mark(120,false)=1 mark(144,false)=1 mark(176,false)=1 mark(208,false)=1";
    private static final String SIXTEEN_MARKS = "mark(400,true)=1 mark(20,true)=1 mark(50,true)=1 mark(70,true)=1"
        + " mark(90,true)=1 mark(110,true)=1 mark(300,true)=1 mark(209,true)=1";

    public static void main(String[] args) {
        mark();
        markAt();
        nearest();
        away();
        pin();
        harm();
        whichRowIsFirst();
        play();
        drift();
        RUNS.end();
    }

    private static void mark() {
        RUNS.says("Promise 16: a number is a MARK: 1; 0: it was so", "mark(61,true)=1 mark(61,true)=0 many(6)=9",
            "markAt(2)=61");
        RUNS.says("Promise 16: a number is none any more: 1; 0: it was so", "mark(60,false)=1 mark(60,false)=0",
            "many(6)=7 markAt(1)=80");
        RUNS.says("Promise 16: 0 for a MARK of the first ones, and for a number that is none", "mark(40,true)=0",
            "mark(208,true)=0",
            "mark(41,false)=0 mark(20,false)=0 mark(400,false)=0 many(6)=8");
        RUNS.says("Promise 16: OUTSIDE: 20 is within, 19 is not", "mark(19,true)=OUTSIDE mark(20,true)=1 markAt(0)=20",
            "mark(20,false)=1",
            "mark(19,false)=OUTSIDE");
        RUNS.says("Promise 16: OUTSIDE: 400 is within, 401 is not", "mark(401,true)=OUTSIDE mark(400,true)=1",
            "markAt(8)=400",
            "mark(400,false)=1 mark(401,false)=OUTSIDE");
        RUNS.says("Promise 16: OUTSIDE: numbers far off", "mark(MIN,true)=OUTSIDE mark(MAX,true)=OUTSIDE",
            "mark(0,true)=OUTSIDE",
            "mark(NONE,true)=OUTSIDE mark(NONE,false)=OUTSIDE mark(0,false)=OUTSIDE mark(-60,false)=OUTSIDE");
        RUNS.says("Promise 16: FULL: there are 16 others", SIXTEEN_MARKS, "many(6)=16 mark(21,true)=FULL",
            "mark(399,true)=FULL",
            "mark(101,true)=FULL many(6)=16");
        RUNS.says("Promise 16: 16 with itself are no 16 others", SIXTEEN_MARKS, "mark(20,true)=0 mark(400,true)=0",
            "mark(100,true)=0");
        RUNS.says("Promise 16: what is none any more is never FULL", SIXTEEN_MARKS, "mark(21,false)=0",
            "mark(400,false)=1 many(6)=15");
        RUNS.says("Promise 16: 15 others", SIXTEEN_MARKS, "mark(21,true)=FULL mark(20,false)=1 mark(21,true)=1",
            "mark(20,true)=FULL markAt(0)=21");
        RUNS.says("Promise 16: OUTSIDE ahead of FULL", SIXTEEN_MARKS, "mark(19,true)=OUTSIDE mark(401,true)=OUTSIDE");
        RUNS.says("Promise 16: the last MARK goes, the first comes", NO_MARKS, "many(6)=0 markAt(0)=NONE",
            "mark(60,false)=0",
            "mark(300,true)=1 many(6)=1 markAt(0)=300 markAt(1)=NONE");
    }

    private static void markAt() {
        RUNS.says("Promise 17: the least first, however they came", SIXTEEN_MARKS, "markAt(0)=20 markAt(1)=40",
            "markAt(2)=50 markAt(3)=60",
            "markAt(4)=70 markAt(5)=80 markAt(6)=90 markAt(7)=100 markAt(8)=110 markAt(9)=120 markAt(10)=144",
            "markAt(11)=176",
            "markAt(12)=208 markAt(13)=209 markAt(14)=300 markAt(15)=400");
        RUNS.says("Promise 17: NONE: there are not so many", "markAt(7)=208 markAt(8)=NONE markAt(15)=NONE",
            "mark(208,false)=1 markAt(7)=NONE",
            "markAt(6)=176");
        RUNS.says("Promise 17: NONE: the last of 16 goes", SIXTEEN_MARKS, "markAt(15)=400 mark(90,false)=1",
            "markAt(15)=NONE markAt(14)=400");
        RUNS.says("Promise 17: NONE: there are no MARKS", NO_MARKS, "markAt(0)=NONE markAt(15)=NONE");
        RUNS.says("Promise 17: OUTSIDE: 0 is within, -1 is not", "markAt(-1)=OUTSIDE markAt(0)=40 markAt(MIN)=OUTSIDE");
        RUNS.says("Promise 17: OUTSIDE: 15 is within, 16 is not", "markAt(15)=NONE markAt(16)=OUTSIDE",
            "markAt(MAX)=OUTSIDE");
        RUNS.says("Promise 17: OUTSIDE: of 16 MARKS", SIXTEEN_MARKS, "markAt(-1)=OUTSIDE markAt(15)=400",
            "markAt(16)=OUTSIDE");
    }

    private static void nearest() {
        RUNS.says("==== 3: NEAREST: of two the lesser", ONE, "start(50)=60 nearest(0)=40 start(49)=50 nearest(0)=40",
            "start(51)=49 nearest(0)=60");
        RUNS.says("==== 3: NEAREST: of two the lesser, between whole numbers", TWO, "mark(41,true)=1 start(27)=60",
            "tie(0,8,1,10,1)=0",
            "tempo(1,0)=81 tempo(1,1)=2 nearest(1)=40 away(1,0)=1 away(1,1)=2");
        RUNS.says("==== 3: NEAREST: a hair to either side", TWO, "mark(41,true)=1 start(365)=60 tie(0,10,1,17,1)=0",
            "tempo(1,0)=365 tempo(1,1)=9 nearest(1)=41 start(364)=365 nearest(1)=40 away(1,0)=4 away(1,1)=9");
        RUNS.says("==== 3: NEAREST: slower than all MARKS", ONE, "start(20)=60 nearest(0)=40 away(0,0)=20");
        RUNS.says("==== 3: NEAREST: faster than all MARKS", ONE, "start(400)=60 nearest(0)=208 away(0,0)=192");
        RUNS.says("==== 3: NEAREST: one MARK alone", ONE, NO_MARKS, "mark(400,true)=1 start(20)=60 nearest(0)=400",
            "away(0,0)=380 away(0,1)=1");
        RUNS.says("==== 3: NEAREST: of 16 MARKS the first and the last", ONE, SIXTEEN_MARKS, "start(29)=60",
            "nearest(0)=20 start(30)=29",
            "nearest(0)=20 start(31)=30 nearest(0)=40 start(350)=31 nearest(0)=300 start(351)=350 nearest(0)=400");
        RUNS.says("==== 3: NEAREST: a PIN has no say", ONE, "pin(0,208)=NONE nearest(0)=60");
        RUNS.says("Promise 18: NONE: there are no MARKS", ONE, NO_MARKS, "nearest(0)=NONE mark(20,true)=1",
            "nearest(0)=20");
        RUNS.says("Promise 18: NONE: it is not JOINED to SECTION 0", THREE, "nearest(1)=NONE tie(1,8,2,8,1)=0",
            "nearest(2)=NONE",
            "tie(2,8,0,8,1)=1 nearest(1)=60 nearest(2)=60");
        RUNS.says("Promise 18: UNKNOWN", TWO, "nearest(2)=UNKNOWN nearest(-1)=UNKNOWN nearest(MIN)=UNKNOWN",
            "nearest(MAX)=UNKNOWN nearest(1)=NONE");
        RUNS.says("Promise 18: UNKNOWN ahead of NONE", ONE, NO_MARKS, "nearest(1)=UNKNOWN nearest(-1)=UNKNOWN",
            "nearest(0)=NONE");
        RUNS.says("Promise 18: UNKNOWN: of a full piece", SEVEN, "nearest(7)=UNKNOWN nearest(6)=NONE");
    }

    private static void away() {
        RUNS.says("Promise 19: 0 by 1, if it does not differ", TWO, "away(0,0)=0 away(0,1)=1 tie(0,8,1,9,1)=0",
            "away(1,0)=0 away(1,1)=1");
        RUNS.says("Promise 19: the MARK is above", ONE, "start(59)=60 away(0,0)=1 away(0,1)=1");
        RUNS.says("Promise 19: the MARK is below", ONE, "start(61)=60 away(0,0)=1 away(0,1)=1");
        RUNS.says("Promise 19: as a share in least terms", TWO, "start(30)=60 tie(0,2,1,17,1)=0 away(1,0)=235",
            "away(1,1)=6");
        RUNS.says("Promise 19: the slowest by 6 TIES of 9 by 64", SEVEN, "start(397)=60 tie(0,1,1,18,1)=0",
            "tie(1,1,2,18,1)=1",
            "tie(2,1,3,18,1)=2 tie(3,1,4,18,1)=3 tie(4,1,5,18,1)=4 tie(5,1,6,18,1)=5 mark(400,true)=1 mark(40,false)=1",
            "mark(60,false)=1 mark(80,false)=1 mark(100,false)=1 mark(120,false)=1 mark(144,false)=1 mark(176,false)=1",
            "mark(208,false)=1 nearest(6)=400 away(6,0)=27487579712323 away(6,1)=68719476736");
        RUNS.says("Promise 19: the fastest by 6 TIES of 144 by 4", SEVEN, "start(400)=60 tie(0,17,1,2,1)=0",
            "tie(1,17,2,2,1)=1",
            "tie(2,17,3,2,1)=2 tie(3,17,4,2,1)=3 tie(4,17,5,2,1)=4 tie(5,17,6,2,1)=5 nearest(6)=208",
            "away(6,0)=870712934192 away(6,1)=1");
        RUNS.says("Promise 19: NONE: there are no MARKS", ONE, NO_MARKS, "away(0,0)=NONE away(0,1)=NONE");
        RUNS.says("Promise 19: NONE: it is not JOINED to SECTION 0", TWO, "away(1,0)=NONE away(1,1)=NONE");
        RUNS.says("Promise 19: UNKNOWN", TWO, "away(2,0)=UNKNOWN away(-1,0)=UNKNOWN away(MIN,1)=UNKNOWN",
            "away(MAX,1)=UNKNOWN");
        RUNS.says("Promise 19: OUTSIDE: which is 0 or 1", ONE, "away(0,-1)=OUTSIDE away(0,0)=0 away(0,1)=1",
            "away(0,2)=OUTSIDE",
            "away(0,MIN)=OUTSIDE away(0,MAX)=OUTSIDE");
        RUNS.says("Promise 19: UNKNOWN ahead of OUTSIDE, that ahead of NONE", TWO, "away(2,2)=UNKNOWN",
            "away(-1,-1)=UNKNOWN away(1,2)=OUTSIDE",
            "away(1,-1)=OUTSIDE away(1,1)=NONE");
        RUNS.says("Promise 19: OUTSIDE ahead of NONE without MARKS", ONE, NO_MARKS, "away(0,2)=OUTSIDE",
            "away(1,2)=UNKNOWN away(0,1)=NONE");
    }

    private static void pin() {
        RUNS.says("Promise 20: to what it was (NONE)", TWO, "pin(1,60)=NONE pin(1,80)=60 pin(1,80)=80 pin(1,NONE)=80",
            "pin(1,NONE)=NONE",
            "pin(0,NONE)=NONE");
        RUNS.says("Promise 20: OUTSIDE: 20 is within, 19 is not", ONE, "pin(0,19)=OUTSIDE pin(0,20)=NONE",
            "ofSection(0,4)=20");
        RUNS.says("Promise 20: OUTSIDE: 400 is within, 401 is not", ONE, "pin(0,401)=OUTSIDE pin(0,400)=NONE",
            "ofSection(0,4)=400");
        RUNS.says("Promise 20: OUTSIDE: NONE is within, what is next to it is not", ONE, "pin(0,60)=NONE",
            "pin(0,-8)=OUTSIDE pin(0,-10)=OUTSIDE",
            "pin(0,0)=OUTSIDE pin(0,-1)=OUTSIDE pin(0,MIN)=OUTSIDE pin(0,MAX)=OUTSIDE ofSection(0,4)=60",
            "pin(0,NONE)=60");
        RUNS.says("Promise 20: UNKNOWN", TWO, "pin(2,60)=UNKNOWN pin(-1,60)=UNKNOWN pin(MIN,60)=UNKNOWN",
            "pin(MAX,60)=UNKNOWN pin(2,NONE)=UNKNOWN");
        RUNS.says("Promise 20: UNKNOWN: of a full piece", SEVEN, "pin(7,60)=UNKNOWN pin(6,60)=NONE");
        RUNS.says("Promise 20: UNKNOWN ahead of OUTSIDE", TWO, "pin(2,19)=UNKNOWN pin(-1,401)=UNKNOWN",
            "pin(MAX,MIN)=UNKNOWN");
        RUNS.says("==== 3: it holds while that is one of the MARKS", ONE, "pin(0,20)=NONE ofSection(0,5)=0 play(0)=40",
            "many(7)=0 mark(20,true)=1",
            "ofSection(0,5)=1 play(0)=20 many(7)=1 mark(20,false)=1 ofSection(0,5)=0 play(0)=40 many(7)=0",
            "ofSection(0,4)=20");
        RUNS.says("==== 3: it holds of the least and of the largest MARK", TWO, SIXTEEN_MARKS, "tie(0,8,1,8,9)=0",
            "pin(0,400)=NONE pin(1,20)=NONE",
            "play(0)=400 play(1)=20 many(7)=2 harm()=82080");
        RUNS.says("==== 3: a SECTION that is not JOINED to SECTION 0 may be PINNED, too", TWO, "pin(1,60)=NONE",
            "ofSection(1,5)=1 many(7)=1 play(1)=NONE");
        RUNS.says("==== 3: several may be PINNED to one number", SEVEN, "pin(0,60)=NONE pin(6,60)=NONE pin(3,60)=NONE",
            "many(7)=3");
        RUNS.says("==== 3: all are PINNED", SEVEN, "pin(0,40)=NONE pin(1,60)=NONE pin(2,80)=NONE pin(3,100)=NONE",
            "pin(4,120)=NONE pin(5,144)=NONE",
            "pin(6,176)=NONE many(7)=7");
    }

    private static void harm() {
        RUNS.says("Promise 21: NONE: no SECTIONS", "harm()=NONE", ONE, "harm()=0 clear()=0 harm()=NONE");
        RUNS.says("Promise 21: NONE: there are no MARKS", ONE, NO_MARKS, "harm()=NONE mark(20,true)=1 harm()=0");
        RUNS.says("Promise 21: NONE: neither", NO_MARKS, "harm()=NONE");
        RUNS.says("Promise 21: 0 without TIES", SEVEN, "harm()=0");
        RUNS.says("Promise 21: EAR 0 hears nothing", TWO, "tie(0,8,1,8,0)=0 pin(0,40)=NONE pin(1,208)=NONE harm()=0",
            "ear(0,1)=0 harm()=4032");
        RUNS.says("Promise 21: EAR 9 hears the most", TWO, "tie(0,8,1,8,9)=0 pin(0,40)=NONE pin(1,208)=NONE",
            "harm()=36288");
        RUNS.says("Promise 21: KEPT TIES alone", TWO, "tie(0,8,1,8,1)=0 tie(0,8,1,12,9)=1 tie(0,8,1,8,9)=2",
            "pin(0,40)=NONE pin(1,60)=NONE harm()=480");
        RUNS.says("Promise 21: TIES between SECTIONS that are JOINED to SECTION 0 alone", THREE, "tie(1,8,2,8,9)=0",
            "pin(1,40)=NONE pin(2,208)=NONE",
            "harm()=0 tie(0,8,1,8,0)=1 harm()=36288");
        RUNS.says("Promise 21: one MARK alone", THREE, NO_MARKS, "mark(20,true)=1 tie(0,8,1,9,2)=0 tie(1,8,2,10,3)=1",
            "harm()=1040");
        RUNS.says("Promise 21: the most that can be", SEVEN, SIXTEEN_MARKS, "pin(0,20)=NONE pin(1,400)=NONE",
            "pin(2,20)=NONE pin(3,400)=NONE",
            "pin(4,20)=NONE pin(5,400)=NONE pin(6,20)=NONE tie(0,2,1,17,9)=0 tie(1,17,2,2,9)=1 tie(2,2,3,17,9)=2",
            "tie(3,17,4,2,9)=3",
            "tie(4,2,5,17,9)=4 tie(5,17,6,2,9)=5 harm()=3106080 drift(0)=57520 drift(5)=57520");
        RUNS.says("Promise 21: the full piece, no HARM", SEVEN, SIXTEEN_MARKS, "tie(0,8,1,8,9)=0 tie(1,8,2,8,9)=1",
            "tie(2,8,3,8,9)=2",
            "tie(3,8,4,8,9)=3 tie(4,8,5,8,9)=4 tie(5,8,6,8,9)=5 harm()=0 play(0)=20 play(6)=20 pin(6,400)=NONE",
            "harm()=0 play(0)=400 play(3)=400");
    }

    private static void whichRowIsFirst() {
        RUNS.says("==== 3: BEST PLAY: of several the first as a row: nothing is heard", SEVEN, "tie(0,8,1,8,0)=0",
            "tie(1,2,2,17,0)=1",
            "tie(2,8,3,8,0)=2 tie(3,17,4,2,0)=3 tie(4,8,5,8,0)=4 tie(5,8,6,8,0)=5 play(0)=40 play(1)=40 play(2)=40",
            "play(3)=40",
            "play(4)=40 play(5)=40 play(6)=40 harm()=0");
        RUNS.says("==== 3: BEST PLAY: of several the first as a row: 110 and 130 are as far off", TWO,
            "mark(110,true)=1 mark(130,true)=1",
            "mark(120,false)=1 tie(0,12,1,8,1)=0 pin(0,60)=NONE play(1)=110 harm()=120 pin(1,130)=NONE harm()=120",
            "play(1)=130");
        RUNS.says("==== 3: BEST PLAY: of several the first as a row: the one between two PINS", THREE,
            "tie(0,8,1,8,1)=0 tie(1,8,2,8,1)=1",
            "pin(0,100)=NONE pin(2,40)=NONE play(1)=40 harm()=1440 pin(0,40)=100 pin(2,100)=40 play(1)=40 harm()=1440");
        RUNS.says("==== 3: BEST PLAY: the louder TIE draws the one between", THREE, "tie(0,8,1,8,2)=0",
            "tie(1,8,2,8,1)=1 pin(0,100)=NONE",
            "pin(2,40)=NONE play(1)=100 harm()=1440 ear(1,3)=1 play(1)=40 harm()=2880 ear(1,2)=3 play(1)=40");
        RUNS.says("==== 3: BEST PLAY: SECTION 0 is no lower than it must be", TWO, "tie(0,8,1,12,1)=0 play(0)=80",
            "play(1)=40 harm()=0");
    }

    private static void play() {
        RUNS.says("Promise 22: NONE: there are no MARKS", ONE, NO_MARKS, "play(0)=NONE mark(400,true)=1 play(0)=400");
        RUNS.says("Promise 22: NONE: no MARKS, though it is PINNED", ONE, "pin(0,60)=NONE", NO_MARKS, "play(0)=NONE");
        RUNS.says("Promise 22: NONE: it is not JOINED to SECTION 0", THREE, "tie(1,8,2,8,1)=0 play(0)=40 play(1)=NONE",
            "play(2)=NONE pin(2,60)=NONE",
            "play(2)=NONE tie(0,8,2,8,1)=1 play(0)=60 play(1)=60 play(2)=60");
        RUNS.says("Promise 22: UNKNOWN", TWO, "play(2)=UNKNOWN play(-1)=UNKNOWN play(MIN)=UNKNOWN play(MAX)=UNKNOWN");
        RUNS.says("Promise 22: UNKNOWN ahead of NONE", ONE, NO_MARKS, "play(1)=UNKNOWN play(-1)=UNKNOWN play(0)=NONE");
        RUNS.says("Promise 22: UNKNOWN: of a full piece", SEVEN, "play(7)=UNKNOWN play(6)=NONE play(0)=40");
        RUNS.says("Promise 22: START and BEATS have no say", TWO, "tie(0,8,1,12,1)=0 play(0)=80 start(400)=60",
            "beats(0,99)=1 play(0)=80");
    }

    private static void drift() {
        RUNS.says("Promise 23: by how much they differ: nothing", TWO, "tie(0,8,1,12,1)=0 drift(0)=0");
        RUNS.says("Promise 23: MARK of b is too much", TWO, "tie(0,8,1,9,1)=0 pin(0,40)=NONE pin(1,60)=NONE",
            "drift(0)=800");
        RUNS.says("Promise 23: MARK of b is too little", TWO, "tie(0,8,1,10,1)=0 pin(0,60)=NONE pin(1,40)=NONE",
            "drift(0)=1200");
        RUNS.says("Promise 23: EAR has no say", TWO, "tie(0,8,1,9,0)=0 pin(0,40)=NONE pin(1,60)=NONE drift(0)=800",
            "ear(0,9)=0 drift(0)=800");
        RUNS.says("Promise 23: be it KEPT or not", TWO, "tie(0,8,1,9,9)=0 tie(1,9,0,8,0)=1 tie(0,8,1,10,0)=2",
            "pin(0,40)=NONE pin(1,60)=NONE",
            "ofTie(1,5)=1 ofTie(2,5)=2 drift(0)=800 drift(1)=800 drift(2)=0");
        RUNS.says("Promise 23: NONE: there are no MARKS", TWO, "tie(0,8,1,9,9)=0", NO_MARKS, "drift(0)=NONE",
            "mark(20,true)=1 drift(0)=160");
        RUNS.says("Promise 23: NONE: its SECTIONS are not JOINED to SECTION 0", THREE, "tie(1,8,2,8,9)=0",
            "tie(1,8,2,9,9)=1 drift(0)=NONE drift(1)=NONE",
            "tie(0,8,1,8,0)=2 drift(0)=0 drift(1)=320 drift(2)=0");
        RUNS.says("Promise 23: UNKNOWN", TWO, "drift(0)=UNKNOWN tie(0,8,1,8,1)=0 drift(1)=UNKNOWN drift(-1)=UNKNOWN",
            "drift(MIN)=UNKNOWN drift(MAX)=UNKNOWN",
            "drift(12)=UNKNOWN");
        RUNS.says("Promise 23: UNKNOWN ahead of NONE", TWO, "tie(0,8,1,8,1)=0", NO_MARKS, "drift(1)=UNKNOWN",
            "drift(-1)=UNKNOWN drift(0)=NONE");
    }
}
