import java.lang.reflect.Method;
import java.lang.reflect.Modifier;
import java.util.Arrays;
import java.util.HashSet;
import java.util.Set;

/**
 * A test of its own for each sentence of the document that names a boundary case. A row is the
 * promise's number with the sentence, and a run of calls on a new object:
 *
 * <pre>
 *   pipe(1)=4     the call answers 4; bad, no, full, none and d1.5 (a double's bits) may stand for a number
 *   steps(1)      the call is made, whatever it answers
 *   pipe(4)*5=4   five calls, each answering 4
 *   text(p_3;)    THE TEXT is cleared and these bytes are typed, _ for a blank
 *   keep, same    all but how often refused is kept; it is as it was kept
 *   hand          digest() is what the document's sum over the other calls gives
 * </pre>
 */
public final class BoundaryTest {
    private static final int MOST_CALLS = 512;
    private static final long BAD_LONG = -9000000000000000L;

    private static final String[][] NEW_OBJECT = {
        {"1 N is 4 at first", "told(4)=4 node(4,0)=100000 node(5,0)=bad"},
        {"1 H is 100 at first", "told(5)=100 node(0,0)=100000 node(4,0)=100000"},
        {"1 Q is 20 at first", "told(6)=20 node(0,1)=20000 node(4,1)=20000"},
        {"1 A is 5 at first", "told(7)=5"},
        {"1 the LEFT END is a LAKE at first", "told(8)=0"},
        {"1 the RIGHT END is a VALVE at first", "told(9)=0"},
        {"1 the LAW is HELD at first", "told(10)=0 steps(100) node(4,1)=20000 node(4,4)=100000 node(4,5)=100000"},
        {"1 T is 10 at first", "told(11)=10"},
        {"1 STEADY: TIME is 0", "told(12)=0 steps(1)=1"},
        {"1 STEADY: each F and B", "node(0,2)=60000 node(4,2)=60000 node(0,3)=40000 node(4,3)=40000"},
        {"1 STEADY: the ENVELOPE, then, too", "all(1)=100000 all(2)=100000 node(0,4)=100000 node(4,5)=100000"},
        {"1 THE TEXT is empty", "told(3)=0 clear()=0"},
        {"1 there is no STATE", "told(13)=0 back()=no"},
        {"1 nothing has been refused", "told(0)=0 told(1)=0 told(2)=0"},
    };

    private static final String[][] PIPE = {
        {"2 N may be 1", "pipe(1)=4 told(4)=1 node(1,0)=100000 node(2,0)=bad"},
        {"2 N may be 10", "pipe(10)=4 told(4)=10 node(10,0)=100000 node(11,0)=bad"},
        {"2 N below 1 is BAD", "keep pipe(0)=bad pipe(-1)=bad told(0)=2 same"},
        {"2 N above 10 is BAD", "keep pipe(11)=bad told(0)=1 same"},
        {"2 STEADY, if N stays", "law(1,1) steps(9) pipe(4)=4 told(12)=0 node(4,0)=100000 all(1)=100000 all(2)=100000"},
        {"2 STEADY: NODES that come back", "law(1,1) pipe(10) steps(9) pipe(1) pipe(10)=1"
            + " node(10,0)=100000 node(10,4)=100000 node(2,5)=100000 node(9,2)=60000 node(9,3)=40000"},
        {"2 S, if nothing changes", "pipe(4)=4 told(13)=1 back()=0"},
        {"2 refused, no S", "pipe(0)=bad told(13)=0 back()=no"},
    };

    private static final String[][] SETS = {
        {"3 H may be 0", "sets(0,0)=100 told(5)=0 node(0,0)=0 node(4,2)=10000 node(4,3)=-10000"},
        {"3 H may be 1000", "sets(0,1000)=100 told(5)=1000 node(4,0)=1000000"},
        {"3 H below 0 is BAD", "keep sets(0,-1)=bad told(0)=1 same"},
        {"3 H above 1000 is BAD", "keep sets(0,1001)=bad told(0)=1 same"},
        {"3 Q may be -100", "sets(1,-100)=20 told(6)=-100 node(4,1)=-100000"},
        {"3 Q may be 100", "sets(1,100)=20 told(6)=100 node(4,1)=100000"},
        {"3 Q below -100 is BAD", "keep sets(1,-101)=bad told(0)=1 same"},
        {"3 Q above 100 is BAD", "keep sets(1,101)=bad told(0)=1 same"},
        {"3 Q may be 0", "sets(1,0)=20 told(6)=0 node(4,1)=0"},
        {"3 A may be 1", "ends(1,3) sets(2,1)=5 told(7)=1 steps(1) all(3)=120000"},
        {"3 A may be 99", "ends(1,3) sets(2,99)=5 told(7)=99 steps(1) all(3)=100202"},
        {"3 A below 1 is BAD", "keep sets(2,0)=bad sets(2,-1)=bad told(0)=2 same"},
        {"3 A above 99 is BAD", "keep sets(2,100)=bad told(0)=1 same"},
        {"3 what below 0 is BAD", "keep sets(-1,5)=bad told(0)=1 same"},
        {"3 what above 2 is BAD", "keep sets(3,1)=bad told(0)=1 same"},
        {"3 what it was, though it is as BAD, NO, FULL",
            "sets(1,-2)=20 sets(1,-3)=-2 sets(1,-4)=-3 sets(1,7)=-4 told(6)=7 told(0)=0 told(1)=0 told(2)=0 told(13)=4"},
        {"3 STEADY, if H stays", "law(1,1) steps(9) sets(0,100)=100 told(12)=0 all(1)=100000 all(2)=100000"},
        {"3 STEADY, if Q stays", "law(1,1) steps(9) sets(1,20)=20 told(12)=0 all(1)=100000 all(2)=100000"},
        {"3 STEADY, if A stays", "ends(1,3) steps(9) sets(2,5)=5 told(12)=0 all(3)=100000 all(1)=100000"},
        {"3 STEADY: halves stay", "sets(0,5) sets(1,2) node(0,2)=3500 node(4,3)=1500"},
        {"3 S, if nothing changes", "sets(0,100) sets(1,20) sets(2,5) told(13)=3 back()=2"},
        {"3 refused, no S", "sets(0,-1)=bad sets(3,0)=bad told(13)=0 back()=no"},
    };

    private static final String[][] ENDS = {
        {"4 the LEFT END may be a WALL", "ends(0,1)=0 told(8)=1 ends(0,0)=1 told(8)=0"},
        {"4 the LEFT END is no more than 1", "keep ends(0,2)=bad ends(0,3)=bad told(0)=2 same"},
        {"4 the LEFT END is not below 0", "keep ends(0,-1)=bad told(0)=1 same"},
        {"4 the RIGHT END may be a TANK", "ends(1,3)=0 told(9)=3 ends(1,0)=3 told(9)=0"},
        {"4 the RIGHT END is no more than 3", "keep ends(1,4)=bad told(0)=1 same"},
        {"4 the RIGHT END is not below 0", "keep ends(1,-1)=bad told(0)=1 same"},
        {"4 which below 0 is BAD", "keep ends(-1,0)=bad told(0)=1 same"},
        {"4 which above 1 is BAD", "keep ends(2,0)=bad told(0)=1 same"},
        {"4 STEADY, if the end stays", "law(1,1) steps(9) ends(1,0)=0 told(12)=0 all(1)=100000 steps(9) ends(0,0)=0 told(12)=0"},
        {"4 STEADY: the TANK, too", "ends(1,3) steps(3) ends(1,3)=3 all(3)=100000"},
        {"4 S, if nothing changes", "ends(0,0) ends(1,0) told(13)=2 back()=1"},
        {"4 refused, no S", "ends(0,2)=bad ends(2,0)=bad told(13)=0 back()=no"},
    };

    private static final String[][] LAW = {
        {"5 k may be 0", "law(0,9)=0 told(10)=0 told(11)=9"},
        {"5 k may be 5", "law(5,9)=0 law(5,9)=5 told(10)=5"},
        {"5 k below 0 is BAD", "keep law(-1,9)=bad told(0)=1 same"},
        {"5 k above 5 is BAD", "keep law(6,9)=bad told(0)=1 same"},
        {"5 T may be 1", "law(2,1)=0 told(11)=1"},
        {"5 T may be 60", "law(2,60)=0 told(11)=60"},
        {"5 T below 1 is BAD", "keep law(2,0)=bad law(2,-1)=bad told(0)=2 same"},
        {"5 T above 60 is BAD", "keep law(2,61)=bad told(0)=1 same"},
        {"5 each LAW with a T: HELD, too", "keep law(0,0)=bad law(0,61)=bad told(0)=2 same"},
        {"5 all else stays: TIME, waves, ENVELOPES",
            "law(1,1) steps(9) law(0,10)=1 told(12)=9 node(4,0)=80000 node(4,4)=120000 node(4,5)=80000"},
        {"5 all else stays: LEVEL", "ends(1,3) steps(1) law(3,3)=0 all(3)=104000 told(12)=1"},
        {"5 S, if nothing changes", "law(0,10) told(13)=1 back()=0"},
        {"5 refused, no S", "law(6,1)=bad law(0,0)=bad told(13)=0 back()=no"},
    };

    private static final String[][] STEADY = {
        {"6 TIME as it was, 0", "steady()=0 told(12)=0"},
        {"6 TIME as it was, 999", "steps(100)*9 steps(99)=999 steady()=999 told(12)=0 steps(1)=1"},
        {"6 the ENVELOPE is of since then", "law(1,1) steps(9) node(4,4)=120000 steady()=9"
            + " node(4,4)=100000 node(4,5)=100000 all(1)=100000 all(2)=100000"},
        {"6 LEVEL is H", "ends(1,3) sets(0,50) steps(9) steady()=9 all(3)=50000"},
        {"6 the LAW and the ends stay", "ends(0,1) ends(1,2) law(4,60) steps(1) steady()=1 told(8)=1 told(9)=2 told(10)=4 told(11)=60"},
        {"6 S, if nothing changes", "steady()=0 told(13)=1 back()=0"},
    };

    private static final String[][] STEPS = {
        {"7 n may be 1", "steps(1)=1 told(12)=1"},
        {"7 n may be 100", "steps(100)=100 told(12)=100"},
        {"7 n below 1 is BAD", "keep steps(0)=bad steps(-1)=bad told(0)=2 same"},
        {"7 n above 100 is BAD", "keep steps(101)=bad told(0)=1 same"},
        {"7 TIME may be 999", "steps(100)*9 steps(99)=999 told(12)=999 told(2)=0"},
        {"7 above 999 is FULL by 1", "steps(100)*9 keep steps(100)=full told(2)=1 same steps(99)=999"},
        {"7 at 999 each is FULL", "steps(100)*9 steps(99) keep steps(1)=full steps(100)=full told(2)=2 same"},
        {"7 BAD ahead of FULL", "steps(100)*9 steps(99) steps(0)=bad steps(101)=bad told(0)=2 told(2)=0"},
        {"7 STEADY ends FULL", "steps(100)*9 steps(99) steps(1)=full steady()=999 steps(100)=100"},
        {"7 S, one for n", "steps(100) told(13)=1 back()=0 told(12)=0"},
        {"7 FULL, no S", "steps(100)*9 steps(99) steady() steps(1) back()=3 back()=2 steps(1)=full told(13)=2"},
    };

    private static final String[][] STEP = {
        {"7 F goes a NODE on, B a NODE back, from what was ahead of the STEP", "pipe(3) law(1,2) steps(1) node(3,0)=100000"
            + " steps(1) node(3,0)=120000 node(2,0)=100000 steps(1) node(2,0)=120000 node(1,0)=100000"
            + " steps(2) node(0,2)=40000 node(1,2)=60000 steps(1) node(1,2)=40000 node(2,2)=60000"},
        {"7 one REACH", "pipe(1) ends(1,2) steps(2) node(0,2)=40000 node(0,3)=60000 node(1,2)=60000 node(1,3)=60000"},
        {"7 TIME is 1 more ahead of what the LAW lets", "law(1,1) steps(1) node(4,0)=120000 steady() law(1,2) steps(1) node(4,0)=100000"},
        {"7 LEFT LAKE: H - B", "pipe(1) law(1,1) steps(2) node(0,2)=40000 node(0,3)=60000"},
        {"7 LEFT WALL: B", "pipe(1) ends(0,1) steps(1) node(0,2)=40000 node(0,3)=40000 node(0,1)=0"},
        {"7 LEFT WALL: B of NODE 0, not of the next", "pipe(2) ends(0,1) law(1,1) steps(2) node(0,2)=40000 node(1,3)=60000 steps(1) node(0,2)=60000"},
        {"7 RIGHT VALVE: F - what is let", "pipe(1) law(4,9) steps(1) node(1,2)=60000 node(1,3)=50000 node(1,1)=10000"},
        {"7 RIGHT LAKE: H - F", "pipe(1) ends(0,1) ends(1,1) steps(2) node(1,2)=40000 node(1,3)=60000 node(1,0)=100000"},
        {"7 RIGHT WALL: F", "pipe(1) ends(1,2) steps(1) node(1,2)=60000 node(1,3)=60000 node(1,1)=0"},
        {"7 RIGHT TANK: LEVEL - F, and then LEVEL rises", "pipe(1) sets(2,3) ends(1,3) steps(1) node(1,3)=40000 all(3)=106666"
            + " steps(1) node(1,3)=46666 bits(1)=d106.66666666666667 all(3)=111111"},
        {"7 LEVEL is 10000, if it is more", "pipe(1) sets(0,0) sets(1,100) sets(2,1) ends(1,3) steps(16) all(3)=-6500000"
            + " steps(1) all(3)=10000000 steps(1) bits(1)=d10000.0"},
        {"7 LEVEL is 10000, if it is little more", "text(h686;q76;a6;p1;l1;r3;s88;) reads()=7 all(3)=5779046 steps(1) all(3)=10000000"},
        {"7 LEVEL stays as it is, if it is little below 10000", "text(p1;h141;q10;a2;r3;s47;) reads()=6 all(3)=9999601"},
        {"7 LEVEL is -10000, if it is less", "pipe(1) sets(0,0) sets(1,100) sets(2,1) ends(1,3) steps(18) all(3)=-10000000"
            + " steps(1) bits(1)=d-10000.0"},
        {"7 LEVEL is -10000, if it is little less", "text(h10;q-9;a4;p1;l1;r3;s95;) reads()=7 all(3)=-10000000"},
        {"7 LEVEL stays as it is, if it is little above -10000", "text(p1;h457;q20;a2;r3;s44;) reads()=6 all(3)=-9999845"},
    };

    private static final String[][] NODE = {
        {"8 i may be 0 and N", "node(0,0)=100000 node(4,0)=100000 told(0)=0"},
        {"8 i below 0 is BAD", "keep node(-1,0)=bad told(0)=1 same"},
        {"8 i above N is BAD", "keep node(5,0)=bad told(0)=1 same pipe(1) node(2,0)=bad pipe(10) node(11,0)=bad told(0)=3"},
        {"8 what may be 0 and 5", "law(1,1) steps(9) node(4,0)=80000 node(4,5)=80000 node(4,4)=120000 told(0)=0"},
        {"8 what below 0 is BAD", "keep node(0,-1)=bad told(0)=1 same"},
        {"8 what above 5 is BAD", "keep node(0,6)=bad told(0)=1 same"},
        {"8 TOLD is cut toward 0", "pipe(1) sets(2,3) ends(0,1) ends(1,3) steps(3) node(1,0)=97777 node(1,1)=-17777"},
        {"8 FLOW below 0", "sets(1,-20) node(2,1)=-20000 node(2,2)=40000 node(2,3)=60000"},
        {"8 the greatest PRESSURE when STEADY, too", "pipe(1) ends(0,1) steps(1) node(0,0)=80000 node(0,4)=100000 node(0,5)=80000"},
        {"8 the least PRESSURE when STEADY, too", "law(1,1) steps(1) node(4,0)=120000 node(4,5)=100000 node(4,4)=120000"},
        {"8 an ENVELOPE of each NODE", "law(1,1) steps(9) node(0,4)=100000 node(3,4)=120000 node(3,5)=100000 node(4,5)=80000"},
        {"8 no S", "node(0,0) told(13)=0"},
    };

    private static final String[][] ALL = {
        {"9 what below 0 is BAD", "keep all(-1)=bad told(0)=1 same"},
        {"9 what above 3 is BAD", "keep all(4)=bad told(0)=1 same"},
        {"9 KEPT is 0 at first", "sets(0,0) sets(1,0) all(0)=0 sets(0,2) all(0)=10000"},
        {"9 KEPT: NODE 0 and NODE N", "all(0)=26000000 pipe(1) all(0)=10400000 pipe(10) all(0)=57200000"},
        {"9 KEPT: 0 + that of NODE 0, .., each F * F + B * B ahead of it",
            "text(p1;h7;q20;a2;r3;s73;) reads()=6 all(0)=106629450436156"},
        {"9 the greatest of NODE 0 alone", "pipe(1) sets(1,-20) ends(0,1) ends(1,1) steps(1) node(1,4)=100000 all(1)=120000"},
        {"9 the greatest of NODE N alone", "law(1,1) steps(1) node(3,4)=100000 all(1)=120000"},
        {"9 the least of NODE 0 alone", "pipe(1) ends(0,1) ends(1,1) steps(1) node(1,5)=100000 all(2)=80000"},
        {"9 the least of NODE N alone", "law(1,1) steps(9) node(3,5)=100000 all(2)=80000"},
        {"9 of ENVELOPES, though it is over", "law(1,1) steps(9) node(4,0)=80000 all(1)=120000 steps(8) node(4,0)=120000 all(2)=80000"},
        {"9 LEVEL of a TANK when STEADY: H", "ends(1,3) all(3)=100000 sets(0,7) all(3)=7000"},
        {"9 LEVEL with a VALVE: H", "ends(1,3) steps(1) all(3)=104000 ends(1,0) steps(9) all(3)=100000"},
        {"9 LEVEL with a LAKE: H", "ends(1,3) steps(1) ends(1,1) steps(9) all(3)=100000"},
        {"9 LEVEL with a WALL: H", "ends(1,3) steps(1) ends(1,2) steps(9) all(3)=100000 sets(0,0) all(3)=0"},
        {"9 no S", "all(0) told(13)=0"},
    };

    private static final String[][] BITS = {
        {"10 i may be 0 and N", "bits(0)=d100.0 bits(4)=d100.0 told(0)=0"},
        {"10 i below 0 is BAD", "keep bits(-1)=bad told(0)=1 same"},
        {"10 i above N is BAD", "keep bits(5)=bad told(0)=1 same pipe(10) bits(10)=d100.0 bits(11)=bad"},
        {"10 PRESSURE 0", "sets(0,0) bits(0)=0 sets(1,0) bits(4)=0"},
        {"10 PRESSURE 0, found by a difference", "sets(0,0) pipe(1) law(1,1) steps(3) bits(0)=0"},
        {"10 PRESSURE 0 behind STEPS, at each end", "sets(0,0) sets(1,0) law(2,9) steps(9) bits(0)=0 bits(4)=0 ends(1,1) steps(9) bits(0)=0 bits(4)=0"
            + " ends(1,2) steps(9) bits(0)=0 bits(4)=0 ends(1,3) steps(9) bits(0)=0 bits(4)=0 ends(0,1) steps(9) bits(0)=0 bits(4)=0"},
        {"10 PRESSURE below 0", "sets(0,0) pipe(1) law(1,1) steps(3) bits(1)=d-20.0"},
        {"10 PRESSURE below 1", "sets(0,0) sets(1,1) pipe(1) law(2,60) steps(1) bits(1)=d0.01666666666666672"},
        {"10 PRESSURE at and beside a power of 2", "sets(0,1) bits(0)=d1.0 sets(0,2) bits(0)=d2.0 sets(0,511) bits(0)=d511.0"
            + " sets(0,512) bits(0)=d512.0 sets(0,513) bits(0)=d513.0 sets(0,1000) bits(0)=d1000.0"},
        {"10 EVEN: * ahead of /, from the left", "sets(0,0) pipe(1) law(2,11) steps(1) bits(1)=d1.8181818181818166"},
        {"10 LATE: (..) first", "sets(0,0) sets(1,3) pipe(1) law(3,10) steps(1) bits(1)=d0.029999999999999805"},
        {"10 no S", "bits(0) told(13)=0"},
    };

    private static final String[][] LETS = {
        {"11 k below 0 is BAD", "keep lets(-1,9,0)=bad told(0)=1 same"},
        {"11 k above 5 is BAD", "keep lets(6,9,0)=bad told(0)=1 same"},
        {"11 T below 1 is BAD", "keep lets(2,0,0)=bad lets(0,0,0)=bad told(0)=2 same"},
        {"11 T above 60 is BAD", "keep lets(2,61,0)=bad lets(0,61,0)=bad told(0)=2 same"},
        {"11 TIME may be 0", "lets(0,1,0)=20000 told(0)=0"},
        {"11 TIME may be 9999", "lets(0,1,9999)=20000 lets(1,60,9999)=0 told(0)=0"},
        {"11 TIME below 0 is BAD", "keep lets(1,1,-1)=bad told(0)=1 same"},
        {"11 TIME above 9999 is BAD", "keep lets(1,1,10000)=bad told(0)=1 same"},
        {"11 HELD: T counts for nothing", "lets(0,1,0)=20000 lets(0,1,1)=20000 lets(0,60,60)=20000"},
        {"11 AT ONCE: below T, at T", "lets(1,1,0)=20000 lets(1,1,1)=0 lets(1,60,59)=20000 lets(1,60,60)=0 lets(1,60,61)=0"},
        {"11 EVEN: below T, at T", "lets(2,1,0)=20000 lets(2,1,1)=0 lets(2,60,59)=333 lets(2,60,60)=0 lets(2,60,61)=0"},
        {"11 LATE: below T, at T", "lets(3,1,0)=20000 lets(3,1,1)=0 lets(3,60,59)=661 lets(3,60,60)=0 lets(3,60,61)=0"},
        {"11 HALVES: below T, at T", "lets(4,1,0)=10000 lets(4,1,1)=0 lets(4,60,59)=10000 lets(4,60,60)=0 lets(4,60,61)=0"},
        {"11 SWAY: even, odd", "lets(5,60,0)=20000 lets(5,60,59)=20000 lets(5,60,60)=10000 lets(5,60,119)=10000 lets(5,60,120)=20000"},
        {"11 SWAY: T is 1", "lets(5,1,0)=20000 lets(5,1,1)=10000 lets(5,1,2)=20000 lets(5,1,9998)=20000 lets(5,1,9999)=10000"},
        {"11 Q below 0 is cut toward 0", "sets(1,-20) lets(2,3,1)=-13333 lets(3,3,1)=-17777 lets(4,3,1)=-10000 lets(5,1,1)=-10000"},
        {"11 an odd Q is halved as a double", "sets(1,7) lets(4,2,1)=3500 lets(5,1,1)=3500"},
        {"11 Q is 0", "sets(1,0) lets(0,1,0)=0 lets(2,3,1)=0 lets(3,3,1)=0 lets(5,1,1)=0"},
        {"11 TOLD is reckoned in doubles", "sets(1,14) lets(2,50,21)=8119 sets(1,9) lets(3,10,3)=8189"},
        {"11 not the LAW that is", "law(1,1) steps(5) lets(0,1,5)=20000 lets(4,9,5)=10000 told(10)=1"},
    };

    private static final String[][] TRIAL = {
        {"12 k below 0 is BAD", "keep trial(-1,9,9)=bad told(0)=1 same"},
        {"12 k above 5 is BAD", "keep trial(6,9,9)=bad told(0)=1 same"},
        {"12 T below 1 is BAD", "keep trial(2,0,9)=bad trial(0,0,9)=bad told(0)=2 same"},
        {"12 T above 60 is BAD", "keep trial(2,61,9)=bad trial(0,61,9)=bad told(0)=2 same"},
        {"12 m may be 0: STEADY alone", "trial(1,1,0)=100000 told(0)=0"},
        {"12 m may be 100", "trial(1,1,100)=120000 told(0)=0"},
        {"12 m: the last STEP counts, none behind it", "trial(1,60,59)=100000 trial(1,60,60)=120000"},
        {"12 m below 0 is BAD", "keep trial(1,1,-1)=bad told(0)=1 same"},
        {"12 m above 100 is BAD", "keep trial(1,1,101)=bad told(0)=1 same"},
        {"12 the greatest when STEADY, too", "sets(1,100) ends(0,1) trial(0,1,9)=100000"},
        {"12 of any NODE: NODE 0", "sets(1,-20) ends(0,1) trial(0,1,1)=120000"},
        {"12 of any NODE: NODE N", "trial(1,1,1)=120000"},
        {"12 the RIGHT END a VALVE", "ends(1,1) trial(1,1,1)=120000 ends(1,2) trial(0,1,9)=100000 ends(1,3) trial(0,1,9)=100000 told(9)=3"},
        {"12 from STEADY", "law(1,1) steps(9) trial(0,1,9)=100000"},
        {"12 from STEADY at TIME 999, too", "steps(100)*9 steps(99) keep trial(1,1,100)=120000 told(2)=0 same"},
        {"12 nothing is changed", "ends(1,3) law(4,9) steps(9) keep trial(1,1,100) same told(0)=0"},
    };

    private static final String[][] SOONEST = {
        {"13 k may be 0 and 5", "soonest(0,100,100)=1 soonest(5,110,8)=1 told(0)=0"},
        {"13 k below 0 is BAD", "keep soonest(-1,100,9)=bad told(0)=1 same"},
        {"13 k above 5 is BAD", "keep soonest(6,100,9)=bad told(0)=1 same"},
        {"13 b may be -9999", "soonest(1,-9999,0)=none told(0)=0"},
        {"13 b may be 9999", "soonest(1,9999,100)=1 told(0)=0"},
        {"13 PRESSURE above 9999", "pipe(1) sets(1,-100) ends(0,1) trial(0,1,100)=10100000 soonest(0,9999,100)=none"},
        {"13 b below -9999 is BAD", "keep soonest(1,-10000,0)=bad told(0)=1 same"},
        {"13 b above 9999 is BAD", "keep soonest(1,10000,0)=bad told(0)=1 same"},
        {"13 m may be 0", "soonest(1,100,0)=1 soonest(1,99,0)=none told(0)=0"},
        {"13 m may be 100", "soonest(1,120,100)=1 soonest(1,119,100)=none told(0)=0"},
        {"13 m below 0 is BAD", "keep soonest(1,100,-1)=bad told(0)=1 same"},
        {"13 m above 100 is BAD", "keep soonest(1,100,101)=bad told(0)=1 same"},
        {"13 no more than b: as much will do", "soonest(1,120,50)=1 soonest(1,119,50)=51"},
        {"13 no more than b: PRESSURE, not what is TOLD",
            "pipe(1) sets(0,7) trial(3,10,20)=11000 soonest(3,11,20)=11"},
        {"13 the least T: 1", "soonest(2,120,100)=1"},
        {"13 the least T: 60", "soonest(1,119,59)=60"},
        {"13 none", "soonest(1,119,60)=none soonest(0,99,0)=none told(0)=0"},
        {"13 nothing is changed", "ends(1,3) law(4,9) steps(9) keep soonest(2,115,60)=11 soonest(1,99,60)=none same told(0)=0"},
    };

    private static final String[][] BEST = {
        {"14 b may be -9999", "best(-9999,0,0)=none best(-9999,0,1)=none told(0)=0"},
        {"14 b may be 9999", "best(9999,100,0)=1 best(9999,100,1)=1 told(0)=0"},
        {"14 b below -9999 is BAD", "keep best(-10000,0,0)=bad told(0)=1 same"},
        {"14 b above 9999 is BAD", "keep best(10000,0,0)=bad told(0)=1 same"},
        {"14 m may be 0", "best(100,0,0)=1 best(100,0,1)=1 best(99,0,1)=none told(0)=0"},
        {"14 m may be 100", "best(103,100,0)=3 best(103,100,1)=52 told(0)=0"},
        {"14 m below 0 is BAD", "keep best(100,-1,0)=bad told(0)=1 same"},
        {"14 m above 100 is BAD", "keep best(100,101,0)=bad told(0)=1 same"},
        {"14 what below 0 is BAD", "keep best(100,9,-1)=bad told(0)=1 same"},
        {"14 what above 1 is BAD", "keep best(100,9,2)=bad told(0)=1 same"},
        {"14 of LAWS 1 to 4: not HELD", "soonest(0,100,60)=1 best(100,60,0)=none best(100,60,1)=none"},
        {"14 of LAWS 1 to 4: not SWAY", "soonest(5,110,8)=1 best(110,8,0)=1 best(110,8,1)=9"},
        {"14 of LAWS 1 to 4: HALVES, too", "best(115,60,0)=4 best(115,60,1)=9"},
        {"14 the least T", "soonest(2,107,100)=23 soonest(3,107,100)=21 best(107,100,0)=3 best(107,100,1)=21"},
        {"14 the least T: 60", "best(100,59,0)=1 best(100,59,1)=60"},
        {"14 of like ones the least LAW", "soonest(1,110,8)=9 soonest(4,110,8)=9 best(110,8,0)=1"
            + " soonest(2,104,100)=40 soonest(3,104,100)=40 best(104,100,0)=2"
            + " soonest(2,118,100)=9 soonest(4,118,100)=9 best(118,100,0)=2"},
        {"14 NONE: none", "best(99,10,0)=none best(99,10,1)=none told(0)=0 told(1)=0"},
        {"14 nothing is changed", "ends(1,3) law(4,9) steps(9) keep best(115,60,0)=4 best(99,60,0)=none same told(0)=0"},
    };

    private static final String[][] TYPE = {
        {"15 a byte may be 0", "type(0)=1 told(3)=1"},
        {"15 a byte may be 127", "type(127)=1 told(3)=1"},
        {"15 a byte below 0 is BAD", "keep type(-1)=bad told(0)=1 same"},
        {"15 a byte above 127 is BAD", "keep type(128)=bad type(255)=bad type(256)=bad told(0)=3 same"},
        {"15 THE TEXT may have 100", "type(32)*99 type(32)=100 told(3)=100 told(2)=0"},
        {"15 with 100 it is FULL", "type(32)*100 keep type(32)=full told(2)=1 same"},
        {"15 BAD ahead of FULL", "type(32)*100 type(128)=bad type(-1)=bad told(0)=2 told(2)=0"},
        {"15 no S", "type(112) told(13)=0"},
    };

    private static final String[][] CLEAR = {
        {"16 how many it had: 0", "clear()=0 told(3)=0"},
        {"16 how many it had: 100", "type(32)*100 clear()=100 told(3)=0 type(32)=1"},
        {"16 FULL no more", "type(32)*100 type(32)=full clear()=100 type(32)=1 told(2)=1"},
        {"16 what stood there is gone", "text(p3;h7;) clear()=6 text(s1;) reads()=1 told(4)=4 told(5)=100 told(12)=1"},
        {"16 no S", "text(p3;) clear()=3 told(13)=0"},
    };

    private static final String[][] FAULTS = {
        {"17 FAULT: an empty TEXT", "keep reads()=-10 same told(0)=0"},
        {"17 FAULT: one of blanks alone", "text(_) keep reads()=-11 same"},
        {"17 FAULT: one of 100 blanks", "type(32)*100 keep reads()=-110 same"},
        {"17 FAULT: the length, if it ends behind a letter", "text(p) reads()=-11"},
        {"17 FAULT: the length, if it ends behind a letter's blanks", "text(p__) reads()=-13"},
        {"17 FAULT: the length, if it ends behind a number", "text(p3) reads()=-12 text(h1000) reads()=-15"},
        {"17 FAULT: the length, if it ends behind a number's blanks", "text(p3_) reads()=-13"},
        {"17 FAULT: the length, if it ends behind -", "text(q-) reads()=-12"},
        {"17 FAULT: the length, if it ends within w", "text(w) reads()=-11 text(w1) reads()=-12 text(w1_) reads()=-13 text(w1_2) reads()=-14"},
        {"17 FAULT: the length, if it ends behind an ORDER", "text(p3;p) keep reads()=-14 same"},
        {"17 FAULT: the length is 100", "text(" + "p3;".repeat(33) + "p) keep reads()=-110 same"},
        {"17 FAULT: at the first byte", "text(x;) reads()=-10 text(;) reads()=-10 text(3;) reads()=-10 text(-) reads()=-10 text(P3;) reads()=-10"},
        {"17 FAULT: at the last byte of 100", "text(" + "p3;".repeat(33) + ";) keep reads()=-109 same"},
        {"17 FAULT: no number", "text(p;) reads()=-11 text(h-;) reads()=-12 text(w;) reads()=-11 text(w1_;) reads()=-13"},
        {"17 FAULT: a fifth figure", "text(h01000;) reads()=-15 text(q-00001;) reads()=-16 text(p00000;) reads()=-15 text(p_00001) reads()=-16"},
        {"17 FAULT: a fifth figure of w", "text(w00001_2;) reads()=-15 text(w1_00002;) reads()=-17"},
        {"17 FAULT: a blank within a number", "text(p1_0;) reads()=-13 text(h10__0;) reads()=-15"},
        {"17 FAULT: a blank between - and the number", "text(h-_3;) reads()=-12 text(q-_3;) reads()=-12"},
        {"17 FAULT: no blank between two numbers", "text(w12;) reads()=-13 text(w1;) reads()=-12 text(w1x) reads()=-12"},
        {"17 FAULT: two numbers, where one stands", "text(s1_2;) reads()=-13 text(w1_2_3;) reads()=-15"},
        {"17 FAULT: -, but for h and q", "text(p-3;) reads()=-11 text(a-3;) reads()=-11 text(l-1;) reads()=-11"
            + " text(r-1;) reads()=-11 text(s-1;) reads()=-11 text(w-1_2;) reads()=-11 text(w1_-2;) reads()=-13"},
        {"17 FAULT: two -", "text(q--3;) reads()=-12 text(h_--3;) reads()=-13"},
        {"17 FAULT: - behind a number", "text(q3-;) reads()=-12"},
        {"17 FAULT: two ends", "text(p3;;) reads()=-13 text(p3;_;) reads()=-14"},
        {"17 FAULT: a letter, where an end is due", "text(p3p4;) reads()=-12 text(pp3;) reads()=-11"},
        {"17 FAULT: bytes beside the figures", "text(p/;) reads()=-11 text(p:;) reads()=-11 text(p3/;) reads()=-12 text(p3:;) reads()=-12"},
        {"17 FAULT: no blank but 32", "text(p3;) type(9) reads()=-13 text(p) type(9) reads()=-11 clear() type(10) reads()=-10"},
        {"17 FAULT: bytes 0 and 127", "text(p3;) type(0) reads()=-13 text(p3) type(127) reads()=-12"},
        {"17 FAULT: nothing is done", "steps(3) text(p3;h7;s9;x) keep reads()=-19 same told(13)=1"},
        {"17 FAULT: nothing counts", "text(p0;x) reads()=-13 told(0)=0 told(1)=0 told(2)=0"},
        {"17 FAULT ahead of an ORDER that stops all", "text(p0;s999;;) reads()=-18 text(p0) reads()=-12"},
    };

    private static final String[][] READS = {
        {"17 a number of one figure", "text(p3;) reads()=1 told(4)=3"},
        {"17 a number of four figures", "text(h1000;w0005_0060;q-0100;) reads()=3 told(5)=1000 told(10)=5 told(11)=60 told(6)=-100"},
        {"17 - ahead of 0", "text(h-0;q-0;) reads()=2 told(5)=0 told(6)=0 bits(0)=0"},
        {"17 blanks anywhere else", "text(__p__3__;__w__2__9__;__q__-5__;__) reads()=3 told(4)=3 told(10)=2 told(11)=9 told(6)=-5"},
        {"17 blanks needed only between two numbers", "text(p3;q-5;w2_9;s1;) reads()=4 told(4)=3 told(6)=-5 told(11)=9 told(12)=1"},
        {"17 a TEXT of 100 without a FAULT", "text(" + "p3;".repeat(33) + "_) reads()=33 told(3)=100 told(4)=3 told(13)=1"},
        {"17 p as pipe: 1, 10", "text(p1;) reads()=1 told(4)=1 text(p10;) reads()=1 told(4)=10"},
        {"17 p as pipe: 0, 11 stop", "text(p0;) reads()=-1000 text(p11;) reads()=-1000 told(4)=4 told(0)=0"},
        {"17 h as sets 0: 0, 1000", "text(h0;) reads()=1 told(5)=0 text(h1000;) reads()=1 told(5)=1000"},
        {"17 h as sets 0: -1, 1001 stop", "text(h-1;) reads()=-1000 text(h1001;) reads()=-1000 told(5)=100 told(0)=0"},
        {"17 q as sets 1: -100, 100", "text(q-100;) reads()=1 told(6)=-100 text(q100;) reads()=1 told(6)=100"},
        {"17 q as sets 1: -101, 101 stop", "text(q-101;) reads()=-1000 text(q101;) reads()=-1000 told(6)=20 told(0)=0"},
        {"17 a as sets 2: 1, 99", "text(a1;) reads()=1 told(7)=1 text(a99;) reads()=1 told(7)=99"},
        {"17 a as sets 2: 0, 100 stop", "text(a0;) reads()=-1000 text(a100;) reads()=-1000 told(7)=5 told(0)=0"},
        {"17 l as ends 0: 0, 1", "text(l1;) reads()=1 told(8)=1 text(l0;) reads()=1 told(8)=0"},
        {"17 l as ends 0: 2 stops", "text(l2;) reads()=-1000 told(8)=0 told(9)=0 told(0)=0"},
        {"17 r as ends 1: 0, 3", "text(r3;) reads()=1 told(9)=3 text(r0;) reads()=1 told(9)=0"},
        {"17 r as ends 1: 4 stops", "text(r4;) reads()=-1000 told(9)=0 told(0)=0"},
        {"17 w as law: 0 and 1, 5 and 60", "text(w5_60;) reads()=1 told(10)=5 told(11)=60 text(w0_1;) reads()=1 told(10)=0 told(11)=1"},
        {"17 w as law: 6 stops", "text(w6_1;) reads()=-1000 told(10)=0 told(0)=0"},
        {"17 w as law: T 0, 61 stop", "text(w0_0;) reads()=-1000 text(w1_61;) reads()=-1000 told(11)=10 told(0)=0"},
        {"17 w as law: all else stays", "law(1,1) steps(9) text(w0_9;) reads()=1 told(12)=9 node(4,4)=120000"},
        {"17 s as steps: 1, 100", "text(s1;) reads()=1 told(12)=1 text(s100;) reads()=1 told(12)=101"},
        {"17 s as steps: 0, 101, 9999 stop", "text(s0;) reads()=-1000 text(s101;) reads()=-1000 text(s9999;) reads()=-1000 told(12)=0 told(0)=0"},
        {"17 s as steps: TIME 999", "text(" + "s100;".repeat(9) + "s99;) reads()=10 told(12)=999"},
        {"17 s as steps: above 999 stops", "text(" + "s100;".repeat(10) + ") keep reads()=-1009 same told(2)=0"},
        {"17 s at TIME 999 stops", "steps(100)*9 steps(99) text(p4;) keep text(s1;) reads()=-1000 told(12)=999 told(2)=0 text(p4;) same"},
        {"17 s behind an ORDER that makes STEADY", "steps(100)*9 text(h100;s100;) reads()=2 told(12)=100"},
        {"17 STEADY by an ORDER, if nothing changes", "law(1,1) steps(9) text(p4;) reads()=1 told(12)=0 all(1)=100000"},
        {"17 the number of the ORDER that stops: 0 on", "text(p0;p1;) reads()=-1000 text(p1;p0;) reads()=-1001"},
        {"17 the last of 33 ORDERS stops", "text(" + "p3;".repeat(32) + "p0;_) keep reads()=-1032 same"},
        {"17 the first that stops, of two", "text(p1;p0;p0;) reads()=-1001"},
        {"17 stopped: nothing is done", "ends(1,3) law(2,9) steps(9) text(h7;s9;w0_1;l1;p0;) keep reads()=-1004 same"},
        {"17 stopped: no S", "text(p3;p0;) reads()=-1001 told(13)=0 back()=no"},
        {"17 stopped: no STATE is lost", "pipe(1) pipe(2) pipe(3) pipe(5) text(p9;p0;) reads()=-1001 told(13)=4"
            + " back()=3 told(4)=3 back()=2 told(4)=2 back()=1 told(4)=1 back()=0 told(4)=4"},
        {"17 stopped: nothing counts", "text(p0;) reads()=-1000 told(0)=0 told(1)=0 told(2)=0"},
        {"17 S, one STATE for all", "text(p3;h7;s9;) reads()=3 told(13)=1 back()=0 told(4)=4 told(5)=100 told(12)=0"},
        {"17 S, if nothing changes", "text(p4;) reads()=1 told(13)=1 back()=0"},
        {"17 S, the oldest STATE is lost for it", "pipe(1) pipe(2) pipe(3) pipe(5) text(p9;p8;) reads()=2 told(13)=4"
            + " back()=3 told(4)=5 back()=2 back()=1 back()=0 told(4)=1 back()=no"},
        {"17 what it was, though it is as BAD, stops nothing", "text(q-2;q-3;q-4;q5;) reads()=4 told(6)=5"},
        {"17 THE TEXT stays", "text(s1;) reads()=1 told(3)=3 reads()=1 told(12)=2 told(13)=2 text(p0;) reads()=-1000 told(3)=3 text(x) reads()=-10 told(3)=1"},
    };

    private static final String[][] BACK = {
        {"18 NO: none", "keep back()=no told(1)=1 same"},
        {"18 how many can be yet: 0", "pipe(1) back()=0 told(4)=4 back()=no told(1)=1"},
        {"18 4 at most, older ones lost", "pipe(1) pipe(2) pipe(3) pipe(5) pipe(6) told(13)=4"
            + " back()=3 told(4)=5 back()=2 told(4)=3 back()=1 told(4)=2 back()=0 told(4)=1 back()=no told(4)=1"},
        {"18 4 at most, after very many", "pipe(2)*20 pipe(3) pipe(4) pipe(5) pipe(6) pipe(7) told(13)=4"
            + " back()=3 told(4)=6 back()=2 told(4)=5 back()=1 told(4)=4 back()=0 told(4)=3 back()=no"},
        {"18 a refused call loses no STATE", "steps(100) steps(100) steps(100) steps(100) pipe(0)=bad sets(0,-1)=bad sets(3,0)=bad"
            + " ends(0,2)=bad ends(2,0)=bad law(6,1)=bad law(1,0)=bad steps(0)=bad told(14)=bad type(128)=bad reads()=-10"
            + " told(13)=4 back()=3 told(12)=300 back()=2 told(12)=200 back()=1 told(12)=100 back()=0 told(12)=0"},
        {"18 a FULL call loses no STATE", "steps(100)*9 steps(99)=999 steps(1)=full steps(100)=full told(13)=4"
            + " back()=3 told(12)=900 back()=2 told(12)=800 back()=1 told(12)=700 back()=0 told(12)=600 back()=no"},
        {"18 on from a STATE that is back", "pipe(1) pipe(2) pipe(3) pipe(5) pipe(6) back()=3 back()=2 pipe(7)=3 told(13)=3"
            + " back()=2 told(4)=3 back()=1 told(4)=2 back()=0 told(4)=1 back()=no"},
        {"18 back leaves no STATE", "pipe(1) pipe(2) back()=1 told(13)=1"},
        {"18 all but THE TEXT", "pipe(1) text(p3;) back()=0 told(3)=3 told(4)=4"},
        {"18 all but how often refused", "pipe(1) pipe(0) steps(0) back()=0 told(0)=2"},
        {"18 TIME, waves, ENVELOPES", "law(1,1) steps(9) keep steady() back()=2 same"},
        {"18 LEVEL", "ends(1,3) steps(9) keep steps(1) back()=2 same"},
        {"18 LAW and T", "law(3,7) law(4,8) back()=1 told(10)=3 told(11)=7 back()=0 told(10)=0 told(11)=10"},
        {"18 H, Q, A", "sets(0,7) sets(1,8) sets(2,9) back() told(7)=5 back() told(6)=20 back() told(5)=100 node(0,2)=60000"},
        {"18 ends", "ends(0,1) ends(1,3) back() told(9)=0 back() told(8)=0"},
        {"18 NODES that came back", "text(p10;w1_1;s9;) reads()=3 keep pipe(1) steps(5) back()=2 back()=1 same"},
        {"18 no S by a question, by type and clear", "pipe(1) node(0,0) all(0) bits(0) lets(1,1,1) trial(1,1,1) soonest(1,1,1)"
            + " best(1,1,1) type(1) clear() told(1) digest() told(13)=1"},
    };

    private static final String[][] TOLD = {
        {"19 what may be 0 and 13", "told(0)=0 told(13)=0 told(0)=0"},
        {"19 what below 0 is BAD", "keep told(-1)=bad told(0)=1 same"},
        {"19 what above 13 is BAD", "keep told(14)=bad told(0)=1 same"},
        {"19 BAD alone counts as BAD", "pipe(0) told(0)=1 told(1)=0 told(2)=0"},
        {"19 NO alone counts as NO", "back()=no told(0)=0 told(1)=1 told(2)=0"},
        {"19 FULL alone counts as FULL", "type(32)*100 type(32)=full told(0)=0 told(1)=0 told(2)=1"},
        {"19 a refused question counts, too", "node(9,0) told(0)=1 all(9) told(0)=2 bits(9) told(0)=3 lets(9,1,1) told(0)=4"
            + " trial(9,1,1) told(0)=5 soonest(9,1,1) told(0)=6 best(1,1,9) told(0)=7 told(99) told(0)=8"},
        {"19 a call is refused once, though two numbers are not as told", "sets(9,9999)=bad ends(9,9)=bad law(9,0)=bad node(9,9)=bad"
            + " lets(9,0,-1)=bad trial(9,0,-1)=bad soonest(9,10000,101)=bad best(10000,101,9)=bad told(0)=8"},
        {"19 refused in 511 calls", "type(128)*511=bad told(0)=511"},
        {"19 NO in 511 calls", "back()*511=no told(1)=511"},
        {"19 STATES after 511 calls", "steady()*511=0 told(13)=4"},
    };

    private static final String[][] DIGEST = {
        {"20 of a new object", "hand"},
        {"20 NODE by NODE: 1 REACH", "pipe(1) steps(3) hand"},
        {"20 NODE by NODE: 10 REACHES", "pipe(10) law(1,1) steps(30) hand"},
        {"20 told(0) to told(3)", "pipe(0) back() back() type(32)*100 type(32)*3 hand"},
        {"20 told(4) to told(13)", "text(p3;h7;q-8;a9;l1;r2;w3_11;s12;) reads()=8 hand"},
        {"20 all(3): LEVEL of a TANK", "ends(1,3) sets(2,1) steps(60) hand"},
        {"20 trial(2, T, 20): T, not the LAW", "law(1,60) hand law(1,1) hand"},
        {"20 trial(2, T, 20): 20 STEPS, no more, no less", "pipe(1) sets(1,-20) ends(0,1) law(2,60) trial(2,60,19)=420000"
            + " trial(2,60,20)=433333 trial(2,60,21)=446666 hand"},
        {"20 tells what is refused", "hand pipe(0) hand"},
        {"20 changes nothing", "law(1,1) steps(9) keep digest() digest() same told(0)=0"},
    };

    private final SurgeLine line = new SurgeLine();
    private final StringBuilder wrong = new StringBuilder();
    private int calls = 0;
    private String kept = "";

    private static Method methodNamed(String name) {
        for (Method m : SurgeLine.class.getDeclaredMethods()) {
            if (m.getName().equals(name) && Modifier.isPublic(m.getModifiers())) {
                return m;
            }
        }
        throw new AssertionError("no call " + name);
    }

    private long call(Method m, Object... numbers) {
        calls++;
        try {
            return ((Number) m.invoke(line, numbers)).longValue();
        } catch (ReflectiveOperationException e) {
            wrong.append("  ").append(m.getName()).append(Arrays.toString(numbers)).append(" threw ").append(e.getCause()).append('\n');
            return Long.MIN_VALUE;
        }
    }

    private void due(String what, long want, long got) {
        if (want != got) {
            wrong.append("  ").append(what).append(" answered ").append(got).append(", due is ").append(want).append('\n');
        }
    }

    private static long wanted(String want, Class<?> type) {
        switch (want) {
            case "bad": return type == long.class ? BAD_LONG : -2;
            case "no": return -3;
            case "full": return -4;
            case "none": return -1;
            default: return want.charAt(0) == 'd' ? Double.doubleToRawLongBits(Double.parseDouble(want.substring(1))) : Long.parseLong(want);
        }
    }

    private void write(String text) {
        calls++;
        line.clear();
        for (int i = 0; i < text.length(); i++) {
            calls++;
            due("type of byte " + i, i + 1, line.type(text.charAt(i) == '_' ? ' ' : text.charAt(i)));
        }
    }

    /** All that a refused call may not change. */
    private String snapshot() {
        StringBuilder all = new StringBuilder();
        for (int what = 3; what <= 13; what++) all.append(line.told(what)).append(' ');
        int nodes = line.told(4);
        for (int i = 0; i <= nodes; i++) {
            all.append(line.bits(i)).append(' ');
            for (int what = 1; what <= 5; what++) all.append(line.node(i, what)).append(' ');
        }
        for (int what = 0; what <= 3; what++) all.append(line.all(what)).append(' ');
        calls += 16 + 6 * (nodes + 1);
        // Where a STATE comes back is the one thing left out here: STATES are told, and going back uses them up.
        return all.toString();
    }

    private long digestByHand() {
        long h = 2549;
        for (int what = 0; what <= 13; what++) h = 31 * h + line.told(what);
        int nodes = line.told(4);
        for (int i = 0; i <= nodes; i++) {
            for (int what = 0; what <= 5; what++) h = 31 * h + line.node(i, what);
            h = 31 * h + line.bits(i);
        }
        for (int what = 0; what <= 3; what++) h = 31 * h + line.all(what);
        calls += 21 + 7 * (nodes + 1);
        return 31 * h + line.trial(2, line.told(11), 20);
    }

    private void act(String token) {
        if (token.equals("keep")) {
            kept = snapshot();
        } else if (token.equals("same")) {
            String now = snapshot();
            if (!now.equals(kept)) {
                wrong.append("  was ").append(kept).append("\n  is  ").append(now).append('\n');
            }
        } else if (token.equals("hand")) {
            calls++;
            due("digest()", digestByHand(), line.digest());
        } else {
            int open = token.indexOf('(');
            int close = token.indexOf(')');
            String inside = token.substring(open + 1, close);
            if (token.startsWith("text(")) {
                write(inside);
            } else {
                answer(token.substring(0, open), inside, token.substring(close + 1));
            }
        }
    }

    private void answer(String name, String inside, String rest) {
        Method m = methodNamed(name);
        Object[] numbers = inside.isEmpty() ? new Object[0] : Arrays.stream(inside.split(",")).map(Integer::valueOf).toArray();
        int is = rest.indexOf('=');
        String times = is < 0 ? rest : rest.substring(0, is);
        int count = times.isEmpty() ? 1 : Integer.parseInt(times.substring(1));
        for (int i = 0; i < count; i++) {
            long got = call(m, numbers);
            if (is >= 0) {
                due(name + "(" + inside + ")", wanted(rest.substring(is + 1), m.getReturnType()), got);
            }
        }
    }

    private static String run(String script) {
        BoundaryTest test = new BoundaryTest();
        for (String token : script.trim().split(" +")) test.act(token);
        if (test.calls > MOST_CALLS) test.wrong.append("  the row makes ").append(test.calls).append(" calls\n");
        return test.wrong.toString();
    }

    /** 1 is as told for each number of each call, the least and the greatest int for none. */
    private static String farNumbers(Method m) {
        StringBuilder script = new StringBuilder("keep");
        int refused = 0;
        for (int at = 0; at < m.getParameterCount(); at++) {
            for (int far : new int[] {Integer.MIN_VALUE, Integer.MAX_VALUE}) {
                script.append(' ').append(m.getName()).append('(');
                for (int i = 0; i < m.getParameterCount(); i++) {
                    script.append(i == 0 ? "" : ",").append(i == at ? far : 1);
                }
                script.append(")=bad");
                refused++;
            }
        }
        return script.append(" told(0)=").append(refused).append(" same").toString();
    }

    private static int count = 0;
    private static int failed = 0;

    private static void hold(String sentence, String script) {
        count++;
        String wrong = run(script);
        if (!wrong.isEmpty()) {
            failed++;
            System.out.println(sentence + "\n  " + script + "\n" + wrong);
        }
    }

    public static void main(String[] args) {
        Set<String> sentences = new HashSet<>();
        String[][][] all = {NEW_OBJECT, PIPE, SETS, ENDS, LAW, STEADY, STEPS, STEP, NODE, ALL, BITS, LETS, TRIAL,
            SOONEST, BEST, TYPE, CLEAR, FAULTS, READS, BACK, TOLD, DIGEST};
        for (String[][] rows : all) {
            for (String[] row : rows) {
                if (!sentences.add(row[0])) throw new AssertionError("twice: " + row[0]);
                hold(row[0], row[1]);
            }
        }
        for (Method m : SurgeLine.class.getDeclaredMethods()) {
            if (Modifier.isPublic(m.getModifiers()) && m.getParameterCount() > 0) {
                hold(m.getName() + ": the least and the greatest int are BAD", farNumbers(m));
            }
        }
        System.out.println(count - failed + " of " + count + " boundary sentences hold");
        if (failed != 0) {
            System.exit(1);
        }
    }
}
