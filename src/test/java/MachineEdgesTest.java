/**
 * The sentences of "Terms" about ENTRIES and the four MACHINES, one by one: each that names a boundary
 * has a method here, with the sentence above it. The answers are worked out by hand.
 */
public final class MachineEdgesTest {
    public static void main(String[] args) {
        stampsFromZeroOn();
        lessByKeyThenByStamp();
        allDoTheSameAct();
        shiftRowOfOne();
        shiftRowOfSixteen();
        shiftRowTakeAndBoth();
        shiftRowCancel();
        handingKeepsWhatComes();
        handingPullsTheNext();
        handingInTheLastCell();
        handingLosesBehindTheLast();
        handingTakeMovesBoth();
        handingBoth();
        handingCancel();
        heapOfOneNode();
        heapOfFifteenNodes();
        heapComes();
        heapComesAtANode();
        heapHole();
        heapHoleWithNoneBehind();
        heapChanges();
        heapCancelWithTokens();
        heapFreeBehindEachAct();
        bucketOfAKey();
        bucketThatIsFull();
        bucketHead();
        bucketBoth();
        bucketCancel();
        waitSweepsOne();
        cancelSweepsBehindMarking();
        takeAndBothSweep();
        putAndRenewDoNotSweep();
        sweptHeadsOfFullMachines();
        renewTakesWhatCancelWould();
        renewOfNone();
        renewWithoutRoom();
        Check.end();
    }

    private static void both(BeatQueues q, String what, int machine, int key, int name) {
        Check.due(what + ": head's KEY", q.head(machine, 0), key);
        Check.due(what + ": head's NAME", q.head(machine, 1), name);
    }

    private static void of(BeatQueues q, String what, int which, int shift, int handing, int heap, int buckets) {
        int[] want = {shift, handing, heap, buckets};
        for (int m = 0; m < 4; m++) {
            Check.due(what + ": of(" + m + "," + which + ")", q.of(m, which), want[m]);
        }
    }

    private static void outs(BeatQueues q, String what, int shift, int handing, int heap, int buckets) {
        int[] want = {shift, handing, heap, buckets};
        for (int m = 0; m < 4; m++) {
            Check.due(what + ": out(" + m + ")", Check.out(q, m, 0), want[m]);
        }
    }

    // ---- ENTRIES ----

    /** "STAMP (the number of the BEAT in which it comes, from 0 on)" */
    private static void stampsFromZeroOn() {
        BeatQueues q = new BeatQueues();
        q.put(5, 0);
        for (int m = 0; m < 4; m++) {
            Check.due("the first BEAT " + m, q.head(m, 2), 0);
        }
        q.pause();
        q.take();
        q.take();
        q.put(5, 0);
        for (int m = 0; m < 4; m++) {
            Check.due("every BEAT counts " + m, q.head(m, 2), 4);
        }
        q.both(6, 0);
        for (int m = 0; m < 4; m++) {
            Check.due("by BOTH " + m, q.head(m, 2), 5);
        }
        q.renew(4, 0);
        Check.due("by RENEW", q.head(0, 2), 6);
        q.undo();
        q.undo();
        q.both(6, 0);
        Check.due("behind undoing", q.head(0, 2), 5);
    }

    /** "It is LESS than another one by KEY, of like ones by STAMP." */
    private static void lessByKeyThenByStamp() {
        BeatQueues q = Check.told("row 16;levels 4;buckets 1 8;");
        q.put(5, 9);
        q.put(5, 0);
        q.put(4, 31);
        q.put(5, 3);
        q.put(4, 1);
        int[] names = {31, 1, 9, 0, 3};
        for (int m = 0; m < 3; m++) {
            for (int k = 0; k < 5; k++) {
                Check.due("by KEY, then by STAMP " + m, q.drained(m, k, 1), names[k]);
            }
        }
        // a NAME, a mark doesn't matter
        q.cancel(31);
        both(q, "the next of the like ones", 0, 4, 1);
    }

    /** "MACHINES 0 .. 3 all do it" */
    private static void allDoTheSameAct() {
        BeatQueues q = new BeatQueues();
        Check.due("put", q.put(1, 0), 1);
        of(q, "all have it", 0, 1, 1, 1, 1);
        Check.due("take", q.take(), 2);
        outs(q, "all gave it", 1, 1, 1, 1);
        Check.due("take of none", q.take(), 3);
        outs(q, "nothing is OUT", -2, -2, -2, -2);
        of(q, "a MISS of each", 4, 1, 1, 1, 1);
    }

    // ---- SHIFT ROW ----

    /** "if there are more than CELLS, the last one is LOST", of a row of one CELL */
    private static void shiftRowOfOne() {
        BeatQueues q = Check.told("row 1;");
        q.put(5, 0);
        Check.due("there is room", q.of(0, 2), 0);
        q.put(5, 1);
        Check.due("of like ones the later one", q.of(0, 2), 1);
        both(q, "the first one stays", 0, 5, 0);
        q.put(4, 2);
        Check.due("the one that was there", q.of(0, 2), 2);
        both(q, "the LESS one stays", 0, 4, 2);
        q.put(999, 3);
        Check.due("the one that comes", q.of(0, 2), 3);
        both(q, "the LESS one stays", 0, 4, 2);
        Check.due("ENTRIES", q.of(0, 0), 1);
        Check.due("nothing was REFUSED", q.of(0, 3), 0);
    }

    private static void shiftRowOfSixteen() {
        BeatQueues q = Check.told("row 16;");
        for (int i = 16; i >= 1; i--) {
            q.put(10 * i, i);
        }
        Check.due("there is room for 16", q.of(0, 2), 0);
        Check.due("the last CELL", q.kept(0, 15, 0), 160);
        q.put(160, 0);
        Check.due("a 17th, not LESS", q.of(0, 2), 1);
        Check.due("the last CELL", q.kept(0, 15, 1), 16);
        q.put(159, 0);
        Check.due("a 17th, LESS than the last one", q.of(0, 2), 2);
        Check.due("the last CELL", q.kept(0, 15, 0), 159);
        q.put(0, 0);
        Check.due("a 17th, LESS than all", q.of(0, 2), 3);
        Check.due("the first CELL", q.kept(0, 0, 0), 0);
        Check.due("the last CELL", q.kept(0, 15, 0), 150);
        Check.due("ENTRIES", q.of(0, 0), 16);
    }

    /** "TAKE: HEAD is OUT (none: a MISS). BOTH: TAKE, then PUT." */
    private static void shiftRowTakeAndBoth() {
        BeatQueues q = Check.told("row 2;");
        q.take();
        Check.due("none: a MISS", q.of(0, 4), 1);
        q.both(9, 1);
        Check.due("none: a MISS", q.of(0, 4), 2);
        Check.row(q, "then PUT", 0, 0, 9, -2);
        q.put(8, 2);
        q.both(1, 3);
        Check.due("HEAD is OUT, not what comes", Check.out(q, 0, 0), 8);
        Check.row(q, "then PUT", 0, 0, 1, 9);
        q.both(99, 4);
        Check.row(q, "to the last CELL", 0, 0, 9, 99);
        Check.due("full, but nothing is LOST", q.of(0, 2), 0);
        Check.due("no more MISSES", q.of(0, 4), 2);
        q.take();
        q.take();
        Check.row(q, "none is left", 0, 0, -2, -2);
        Check.due("no MISS for the last one", q.of(0, 4), 2);
        q.take();
        Check.due("none: a MISS", q.of(0, 4), 3);
    }

    /** "CANCEL: of those with the NAME the one with the least STAMP is taken out (none: nothing)." */
    private static void shiftRowCancel() {
        BeatQueues q = Check.told("row 4;");
        q.cancel(0);
        of(q, "of an empty one", 0, 0, 0, 0, 0);
        q.put(40, 1);
        q.put(10, 1);
        q.put(30, 2);
        q.put(20, 3);
        q.cancel(0);
        Check.row(q, "none: nothing", 0, 0, 10, 20, 30, 40);
        q.cancel(1);
        Check.row(q, "the least STAMP, in the last CELL", 0, 0, 10, 20, 30, -2);
        q.cancel(3);
        Check.row(q, "between", 0, 0, 10, 30, -2, -2);
        q.cancel(1);
        Check.row(q, "HEAD", 0, 0, 30, -2, -2, -2);
        q.cancel(1);
        Check.row(q, "none is left of it", 0, 0, 30, -2);
        q.cancel(2);
        Check.row(q, "the only one", 0, 0, -2, -2);
        Check.due("nothing is OUT", q.of(0, 6), 0);
        Check.due("no MISS", q.of(0, 4), 0);
        Check.due("nothing is SWEPT", q.of(0, 5), 0);
        Check.due("nothing is LOST", q.of(0, 2), 0);
    }

    // ---- HANDING ROW ----

    /** "if it KEEPS none otherwise, it KEEPS what comes; else it KEEPS the LESS of both, HANDS on the other one" */
    private static void handingKeepsWhatComes() {
        BeatQueues q = new BeatQueues();
        q.put(5, 0);
        Check.row(q, "none was there", 1, 0, 5, -2);
        Check.hands(q, "none was there", -2, -2);
        q.put(5, 1);
        Check.due("of like ones the first stays", q.kept(1, 0, 1), 0);
        Check.due("the other one is HANDED on", q.handed(0, 1), 1);
        q.put(4, 2);
        Check.row(q, "the LESS of both", 1, 0, 4, 5, -2);
        Check.due("the one that was there is HANDED on", q.handed(0, 1), 0);
        Check.due("the other 5 has come to CELL 1", q.kept(1, 1, 1), 1);
        q.pause();
        Check.due("the first of like ones", q.kept(1, 1, 1), 0);
        Check.due("the other one is HANDED on", q.handed(1, 1), 1);
    }

    /** "if it KEEPS none and the next CELL KEEPS one LESS than what comes, it KEEPS that one (the next CELL none)" */
    private static void handingPullsTheNext() {
        BeatQueues q = handingTenTwentyThirty();
        q.both(20, 3);
        Check.row(q, "the next one is LESS by its STAMP", 1, 0, 20, -2, 30);
        Check.due("which 20", q.kept(1, 0, 2), 1);
        Check.hands(q, "what comes", 20, -2, -2);
        q = handingTenTwentyThirty();
        q.both(19, 3);
        Check.row(q, "the next one isn't LESS", 1, 0, 19, 20, 30);
        Check.hands(q, "nothing", -2, -2, -2);
        q = handingTenTwentyThirty();
        q.both(35, 3);
        Check.row(q, "CELL 0", 1, 0, 20, -2, 30);
        Check.hands(q, "CELL 0", 35, -2, -2);
        q.pause();
        Check.row(q, "CELL 1 pulls, too", 1, 0, 20, 30, -2);
        Check.hands(q, "CELL 1", -2, 35, -2);
        q.pause();
        Check.row(q, "CELL 2 has none behind it", 1, 0, 20, 30, 35, -2);
        Check.hands(q, "nothing", -2, -2, -2);
    }

    private static BeatQueues handingTenTwentyThirty() {
        BeatQueues q = Check.told("row 4;");
        q.put(10, 0);
        q.put(20, 1);
        q.put(30, 2);
        q.pause();
        q.pause();
        Check.row(q, "10, 20, 30", 1, 0, 10, 20, 30, -2);
        Check.hands(q, "nothing", -2, -2, -2, -2);
        return q;
    }

    /** The last CELL has no next one. */
    private static void handingInTheLastCell() {
        BeatQueues q = Check.told("row 1;");
        q.put(5, 0);
        q.both(9, 1);
        Check.row(q, "a row of one", 1, 0, 9);
        Check.hands(q, "nothing", -2);
        q.take();
        Check.row(q, "the last one none", 1, 0, -2);
        q = Check.told("row 2;");
        q.put(10, 0);
        q.put(20, 1);
        q.pause();
        q.both(25, 2);
        Check.row(q, "pulled from the last CELL", 1, 0, 20, -2);
        q.pause();
        Check.row(q, "it KEEPS what comes", 1, 0, 20, 25);
        Check.due("nothing is LOST", q.of(1, 2), 0);
        // nor has the last of sixteen: what CELL 0 HANDS on is none of its
        q = Check.told("row 16;");
        for (int i = 1; i <= 16; i++) {
            q.put(10 * i, 0);
        }
        for (int i = 0; i < 13; i++) {
            q.pause();
        }
        q.put(155, 1);
        Check.due("on its way to the last CELL", q.handed(14, 0), 160);
        Check.due("a LESS one is HANDED on by CELL 0", q.handed(0, 0), 155);
        q.pause();
        Check.due("it KEEPS what comes", q.kept(1, 15, 0), 160);
        Check.due("it HANDS on nothing", q.handed(15, 0), -2);
        Check.due("155 comes to CELL 1, which HANDS it on", q.handed(1, 0), 155);
    }

    /** "what it HANDS on comes to the next CELL (behind the last one: is LOST)" */
    private static void handingLosesBehindTheLast() {
        BeatQueues q = Check.told("row 1;");
        q.put(3, 0);
        q.put(5, 1);
        Check.due("on its way yet", q.of(1, 2), 0);
        Check.due("two ENTRIES in a row of one", q.of(1, 0), 2);
        q.take();
        Check.due("it is LOST ahead of the ACT", q.of(1, 2), 1);
        Check.due("HEAD is OUT all the same", Check.out(q, 1, 0), 3);
        Check.due("none is left", q.of(1, 0), 0);
        q = Check.told("row 16;");
        for (int i = 1; i <= 17; i++) {
            q.put(i, 0);
        }
        for (int i = 0; i < 15; i++) {
            Check.due("17 ENTRIES", q.of(1, 0), 17);
            q.pause();
        }
        Check.due("the last CELL HANDS it on", q.handed(15, 0), 17);
        Check.due("not yet LOST", q.of(1, 2), 0);
        q.pause();
        Check.due("LOST", q.of(1, 2), 1);
        Check.due("16 ENTRIES", q.of(1, 0), 16);
        Check.due("SETTLED", q.of(1, 7), 1);
    }

    /** "TAKE: .. each CELL KEEPS, HANDS on what the next one kept, handed on (the last one none)." */
    private static void handingTakeMovesBoth() {
        BeatQueues q = Check.told("row 3;");
        q.put(30, 0);
        q.put(20, 1);
        q.put(10, 2);
        q.put(5, 3);
        Check.row(q, "ahead of it", 1, 0, 5, 20, -2);
        Check.hands(q, "ahead of it", 10, 30, -2);
        // first 30 comes to CELL 2, 10 to CELL 1, which HANDS on 20; then all of it moves
        q.take();
        Check.due("HEAD is OUT", Check.out(q, 1, 0), 5);
        Check.row(q, "moved", 1, 0, 10, 30, -2);
        Check.hands(q, "moved", 20, -2, -2);
        q.pause();
        Check.row(q, "20 comes to CELL 1", 1, 0, 10, 20, -2);
        Check.hands(q, "which HANDS on 30", -2, 30, -2);
        q.take();
        Check.row(q, "30 has come to CELL 2, then moved", 1, 0, 20, 30, -2);
        q.take();
        q.take();
        Check.due("the last one", Check.out(q, 1, 0), 30);
        q.take();
        Check.due("none: a MISS", q.of(1, 4), 1);
        Check.due("nothing was LOST", q.of(1, 2), 0);
    }

    /** "BOTH: HEAD is OUT (none: a MISS), CELL 0 KEEPS none, then the new one comes to it." */
    private static void handingBoth() {
        BeatQueues q = Check.told("row 2;");
        q.both(7, 0);
        Check.due("none: a MISS", q.of(1, 4), 1);
        Check.row(q, "it comes all the same", 1, 0, 7, -2);
        q.both(3, 1);
        Check.due("HEAD is OUT, not what comes", Check.out(q, 1, 0), 7);
        Check.row(q, "in its place", 1, 0, 3, -2);
        q.put(8, 2);
        // 8 comes to CELL 1 ahead of the ACT, so that it can be pulled
        q.both(9, 3);
        Check.row(q, "pulled", 1, 0, 8, -2);
        Check.hands(q, "what comes", 9, -2);
        // nothing else moves by BOTH: what CELL 1 HANDS on stays with it
        BeatQueues r = Check.told("row 4;");
        r.put(30, 0);
        r.put(20, 1);
        r.put(10, 2);
        r.both(1, 3);
        Check.due("HEAD is OUT", Check.out(r, 1, 0), 10);
        Check.row(r, "in its place", 1, 0, 1, 20, -2);
        Check.hands(r, "CELL 1's", -2, 30, -2);
    }

    /** "CANCEL: of all with the NAME that aren't MARKED (KEPT, HANDED on) the one with the least STAMP is MARKED" */
    private static void handingCancel() {
        BeatQueues q = new BeatQueues();
        q.put(1, 9);
        q.put(50, 0);
        q.put(40, 0);
        q.put(30, 0);
        // 50 comes to CELL 1, 40 follows and sends it on, 30 follows that
        Check.row(q, "ahead of it", 1, 0, 1, 40, -2);
        Check.hands(q, "ahead of it", 30, 50, -2);
        q.cancel(0);
        Check.row(q, "behind it", 1, 0, 1, 30, 50);
        Check.hands(q, "behind it", -2, 40, -2);
        Check.due("the least STAMP", q.kept(1, 2, 3), 1);
        q.cancel(0);
        Check.due("the next one, HANDED on", q.handed(2, 3), 1);
        Check.due("which KEY", q.handed(2, 0), 50);
        Check.due("40 is KEPT", q.kept(1, 2, 3), 1);
        Check.due("30 isn't MARKED", q.kept(1, 1, 3), 0);
        q.cancel(0);
        Check.due("all three", q.of(1, 1), 3);
        q.cancel(0);
        Check.due("none: nothing", q.of(1, 1), 3);
        Check.due("all are there", q.of(1, 0), 4);
        Check.due("none was SWEPT", q.of(1, 5), 0);
    }

    // ---- HEAP ----

    private static void heapOfOneNode() {
        BeatQueues q = Check.told("levels 1;");
        Check.due("one NODE", q.free(1), 1);
        Check.due("no other", q.free(2), -1);
        Check.due("no level with a TOKEN", q.token(1, 0), -1);
        q.put(5, 0);
        Check.due("FREE", q.free(1), 0);
        q.put(3, 1);
        Check.due("REFUSED", q.of(2, 3), 1);
        Check.due("none is LOST", q.of(2, 2), 0);
        both(q, "the one that was there", 2, 5, 0);
        q.both(9, 2);
        Check.due("OUT", Check.out(q, 2, 0), 5);
        both(q, "in its place", 2, 9, 2);
        Check.due("not REFUSED", q.of(2, 3), 1);
        Check.due("FREE", q.free(1), 0);
        q.take();
        Check.due("FREE", q.free(1), 1);
        q.take();
        Check.due("none: a MISS", q.of(2, 4), 1);
        Check.due("FREE stays", q.free(1), 1);
        q.both(4, 3);
        Check.due("without HEAD: a MISS", q.of(2, 4), 2);
        both(q, "without HEAD: as PUT", 2, 4, 3);
        Check.due("FREE", q.free(1), 0);
        Check.due("SETTLED", q.of(2, 7), 1);
    }

    /** "NODES 1 .. 2 to the (levels), less 1"; "PUT: if FREE of it is 0, it is REFUSED" */
    private static void heapOfFifteenNodes() {
        BeatQueues q = Check.told("levels 4;");
        for (int i = 0; i < 15; i++) {
            Check.due("FREE", q.free(1), 15 - i);
            q.put(i, 0);
        }
        Check.due("FREE", q.free(1), 0);
        Check.due("none is REFUSED", q.of(2, 3), 0);
        q.put(0, 0);
        Check.due("the 16th is", q.of(2, 3), 1);
        for (int i = 0; i < 3; i++) {
            q.pause();
        }
        Check.due("SETTLED", q.of(2, 7), 1);
        for (int node = 1; node <= 15; node++) {
            Check.due("FREE of " + node, q.free(node), 0);
            Check.due("NODE " + node + " KEEPS one", q.kept(2, node, 0) >= 0 ? 1 : 0, 1);
            if (node > 1) {
                Check.holds("not LESS than the one above " + node, q.kept(2, node, 0) > q.kept(2, node / 2, 0));
            }
        }
        for (int k = 0; k < 15; k++) {
            Check.due("in order", q.drained(2, k, 0), k);
        }
        q.take();
        q.put(0, 0);
        Check.due("there is room again", q.of(2, 3), 1);
        q.put(0, 0);
        Check.due("and none again", q.of(2, 3), 2);
    }

    /** "the other one COMES to 2 j, if FREE of that is above 0, else to 2 j and 1 (FREE of that is one less)" */
    private static void heapComes() {
        BeatQueues q = Check.told("levels 2;");
        q.put(20, 0);
        Check.noToken(q, "it KEEPS none: KEEPS the ENTRY", 1);
        q.put(30, 1);
        Check.token(q, "the other one is the new one", 1, 2, 0, 30);
        Check.due("FREE of 2", q.free(2), 0);
        q.put(10, 2);
        Check.token(q, "the other one was there; FREE of 2 is 0", 1, 3, 0, 20);
        Check.due("FREE of 3", q.free(3), 0);
        Check.row(q, "30 has come to its NODE", 2, 1, 10, 30, -2);
        q.pause();
        Check.row(q, "20, too", 2, 1, 10, 30, 20);
        Check.noToken(q, "none is on its way", 1);
        BeatQueues r = Check.told("levels 2;");
        r.put(5, 0);
        r.put(5, 1);
        Check.due("of like ones the later one COMES", r.token(1, 3), 1);
    }

    /** "COMES: if j KEEPS none, it KEEPS the ENTRY; else it KEEPS the LESS of both", at a NODE below the first */
    private static void heapComesAtANode() {
        BeatQueues q = new BeatQueues();
        q.put(10, 0);
        q.put(40, 1);
        q.put(30, 2);
        Check.row(q, "40 is at NODE 2", 2, 1, 10, 40, -2);
        Check.token(q, "30 COMES to NODE 2", 1, 2, 0, 30);
        Check.due("FREE of 2", q.free(2), 1);
        q.put(50, 3);
        Check.row(q, "the LESS of both", 2, 1, 10, 30, -2, -2);
        Check.token(q, "40 COMES to NODE 4", 2, 4, 0, 40);
        Check.due("FREE of 4", q.free(4), 0);
        Check.token(q, "50 COMES to NODE 2", 1, 2, 0, 50);
        Check.due("FREE of 2", q.free(2), 0);
        q.put(20, 4);
        Check.row(q, "40 is at NODE 4", 2, 1, 10, 30, -2, 40, -2);
        Check.token(q, "FREE of 4 is 0: 50 COMES to NODE 5", 2, 5, 0, 50);
        Check.token(q, "FREE of 2 is 0: 20 COMES to NODE 3", 1, 3, 0, 20);
        Check.due("FREE of 3", q.free(3), 2);
    }

    /** "HOLE: j KEEPS what the LESS one behind it KEEPS, that one none; there is a HOLE (FREE of that is one more)" */
    private static void heapHole() {
        BeatQueues q = heapOfSeven();
        q.take();
        Check.row(q, "from the left", 2, 1, 20, -2, 50, 30, 40, 60, 70);
        Check.token(q, "a HOLE", 1, 2, 1, -2);
        Check.due("FREE of 2", q.free(2), 1);
        Check.due("FREE of 1", q.free(1), 1);
        q.pause();
        Check.row(q, "from below", 2, 1, 20, 30, 50, -2, 40, 60, 70);
        Check.token(q, "a HOLE", 2, 4, 1, -2);
        Check.noToken(q, "none of the level above", 1);
        Check.due("FREE of 4", q.free(4), 1);
        Check.due("FREE of 2", q.free(2), 1);
        q.pause();
        Check.noToken(q, "none is behind it", 2);
        Check.row(q, "it stays", 2, 1, 20, 30, 50, -2, 40, 60, 70);
        q.take();
        q.pause();
        Check.row(q, "one of both KEEPS none", 2, 1, 30, 40, 50, -2, -2, 60, 70);
        Check.due("FREE of 5", q.free(5), 1);
        q.pause();
        q.take();
        Check.row(q, "still from the left", 2, 1, 40, -2, 50, -2, -2, 60, 70);
        q.take();
        Check.row(q, "none is on the left", 2, 1, 50, -2, -2, -2, -2, 60, 70);
        Check.token(q, "a HOLE", 1, 3, 1, -2);
        Check.due("FREE of 3", q.free(3), 1);
        Check.due("FREE of 2", q.free(2), 3);
    }

    private static BeatQueues heapOfSeven() {
        BeatQueues q = new BeatQueues();
        q.put(10, 0);
        q.put(20, 1);
        q.put(30, 2);
        q.put(40, 3);
        q.put(50, 4);
        q.put(60, 5);
        q.put(70, 6);
        q.pause();
        q.pause();
        Check.row(q, "seven", 2, 1, 10, 20, 50, 30, 40, 60, 70);
        Check.due("SETTLED", q.of(2, 7), 1);
        return q;
    }

    /** "if none is behind it that KEEPS one, nothing" */
    private static void heapHoleWithNoneBehind() {
        BeatQueues q = new BeatQueues();
        q.put(5, 0);
        q.take();
        Check.noToken(q, "nothing", 1);
        Check.due("FREE", q.free(1), 7);
        Check.due("SETTLED", q.of(2, 7), 1);
        q.take();
        Check.noToken(q, "nothing", 1);
        Check.due("FREE stays", q.free(1), 7);
        q.put(1, 0);
        q.put(2, 1);
        q.take();
        Check.token(q, "a HOLE", 1, 2, 1, -2);
        q.pause();
        Check.noToken(q, "nothing", 1);
        Check.noToken(q, "nothing", 2);
        Check.due("FREE", q.free(1), 6);
        Check.due("FREE of 2", q.free(2), 3);
    }

    /** "CHANGES: if none behind it KEEPS one that is LESS than the ENTRY, j KEEPS the ENTRY; else .." */
    private static void heapChanges() {
        BeatQueues q = heapOfSeven();
        q.both(19, 9);
        Check.row(q, "none is LESS", 2, 1, 19, 20, 50, 30, 40, 60, 70);
        Check.noToken(q, "nothing is on its way", 1);
        q.both(20, 9);
        Check.row(q, "a like one is LESS by its STAMP", 2, 1, 20, -2, 50, 30, 40, 60, 70);
        Check.due("which 20", q.kept(2, 1, 1), 1);
        Check.token(q, "CHANGES", 1, 2, 2, 20);
        Check.due("FREE of 1", q.free(1), 0);
        Check.due("FREE of 2", q.free(2), 0);
        Check.due("seven ENTRIES", q.of(2, 0), 7);
        q.pause();
        Check.row(q, "none below is LESS", 2, 1, 20, 20, 50, 30, 40, 60, 70);
        Check.noToken(q, "nothing is on its way", 1);
        Check.noToken(q, "nothing is on its way", 2);
        q.both(45, 9);
        Check.token(q, "CHANGES", 1, 2, 2, 45);
        q.pause();
        Check.row(q, "the LESS one of both", 2, 1, 20, 30, 50, -2, 40, 60, 70);
        Check.token(q, "CHANGES", 2, 4, 2, 45);
        Check.noToken(q, "it has gone down", 1);
        q.pause();
        Check.row(q, "in the last level", 2, 1, 20, 30, 50, 45, 40, 60, 70);
        q.both(35, 9);
        q.both(65, 9);
        q.both(999, 9);
        // 65 CHANGES NODE 2 first, then 999 CHANGES NODE 2 behind it
        Check.due("OUT", Check.out(q, 2, 0), 35);
        q.pause();
        q.pause();
        Check.due("SETTLED", q.of(2, 7), 1);
        Check.row(q, "all are there", 2, 1, 40, 45, 50, 999, 65, 60, 70);
    }

    /** "CANCEL: as in the HANDING ROW (KEPT, with TOKENS)" */
    private static void heapCancelWithTokens() {
        BeatQueues q = new BeatQueues();
        q.put(1, 9);
        q.put(50, 0);
        q.put(40, 0);
        Check.token(q, "40 COMES", 1, 2, 0, 40);
        q.cancel(0);
        Check.token(q, "50 COMES to NODE 4", 2, 4, 0, 50);
        Check.due("one is MARKED", q.of(2, 1), 1);
        Check.due("not the one that is KEPT", q.kept(2, 2, 3), 0);
        q.pause();
        Check.due("its mark goes with it", q.kept(2, 4, 3), 1);
        q.cancel(0);
        Check.due("the one that is KEPT", q.kept(2, 2, 3), 1);
        q.cancel(0);
        Check.due("none: nothing", q.of(2, 1), 2);
        Check.due("none was SWEPT", q.of(2, 5), 0);
        // one that CHANGES
        BeatQueues r = heapOfSeven();
        r.both(65, 9);
        Check.token(r, "65 CHANGES", 1, 2, 2, 65);
        Check.due("it is on its way", r.place(2, 9), -3);
        r.cancel(9);
        Check.token(r, "65 CHANGES", 2, 4, 2, 65);
        Check.due("it is MARKED", r.of(2, 1), 1);
        r.pause();
        Check.due("its mark goes with it", r.kept(2, 4, 3), 1);
    }

    /** "FREE of a NODE: how many of it and those below it have no ENTRY and none that is on its way there" */
    private static void heapFreeBehindEachAct() {
        BeatQueues q = Check.told("levels 4;");
        int[] sizes = {15, 7, 7, 3, 3, 3, 3, 1, 1, 1, 1, 1, 1, 1, 1};
        for (int node = 1; node <= 15; node++) {
            Check.due("of an empty one", q.free(node), sizes[node - 1]);
        }
        q.put(5, 0);
        q.put(6, 0);
        Check.due("one is on its way", q.free(2), 6);
        Check.due("none below", q.free(4), 3);
        q.pause();
        Check.due("it has come", q.free(2), 6);
        q.take();
        Check.due("TAKE", q.free(1), 14);
        Check.due("the HOLE", q.free(2), 7);
        q.both(9, 0);
        Check.due("BOTH", q.free(1), 14);
        q.pause();
        q.cancel(0);
        Check.due("SWEPT", q.free(1), 15);
        q.put(5, 0);
        q.renew(7, 0);
        Check.due("RENEW leaves the MARKED one", q.free(1), 13);
    }

    // ---- BUCKETS ----

    /** "one's KEY times BUCKETS by 1000, downwards, tells its BUCKET (0 on)"; "PLACE i: i by DEEP is the BUCKET" */
    private static void bucketOfAKey() {
        int[][] firsts = {{0}, {0, 500}, {0, 334, 667}, {0, 250, 500, 750}, {0, 200, 400, 600, 800},
            {0, 167, 334, 500, 667, 834}, {0, 143, 286, 429, 572, 715, 858}, {0, 125, 250, 375, 500, 625, 750, 875}};
        for (int n = 1; n <= 8; n++) {
            for (int deep : new int[] {1, 3, 8}) {
                BeatQueues q = Check.told("buckets " + n + " " + deep + ";");
                for (int b = 0; b < n; b++) {
                    Check.due("least KEY of BUCKET " + b, q.lands(3, firsts[n - 1][b]), b * deep * 100);
                    int last = b + 1 < n ? firsts[n - 1][b + 1] - 1 : 999;
                    Check.due("largest KEY of BUCKET " + b, q.lands(3, last), b * deep * 100);
                    q.put(last, b);
                    Check.due("it is there", q.kept(3, b * deep, 0), last);
                    q.undo();
                }
                Check.due("the last PLACE", q.kept(3, n * deep - 1, 0), -2);
                Check.due("no such PLACE", q.kept(3, n * deep, 0), -1);
            }
        }
    }

    /** "it comes behind the others of its BUCKET; if that has DEEP of them, the new one is LOST" */
    private static void bucketThatIsFull() {
        BeatQueues q = Check.told("buckets 2 2;");
        q.put(400, 0);
        q.put(300, 1);
        Check.row(q, "as they came", 3, 0, 400, 300, -2, -2);
        q.put(1, 2);
        Check.row(q, "the new one is LOST, though it is LESS", 3, 0, 400, 300, -2, -2);
        Check.due("LOST", q.of(3, 2), 1);
        q.put(500, 3);
        q.put(999, 4);
        Check.row(q, "the other BUCKET has room", 3, 0, 400, 300, 500, 999);
        q.put(500, 5);
        Check.due("LOST", q.of(3, 2), 2);
        Check.due("not REFUSED", q.of(3, 3), 0);
        BeatQueues r = Check.told("buckets 8 8;");
        for (int i = 0; i < 64; i++) {
            r.put(i % 8 * 125, 0);
        }
        Check.due("64 ENTRIES", r.of(3, 0), 64);
        Check.due("none is LOST", r.of(3, 2), 0);
        Check.due("the last PLACE", r.kept(3, 63, 0), 875);
        for (int b = 0; b < 8; b++) {
            r.put(b * 125, 0);
            Check.due("no room in BUCKET " + b, r.of(3, 2), b + 1);
        }
    }

    /** "HEAD is the first of the first BUCKET that has one." */
    private static void bucketHead() {
        BeatQueues q = Check.told("buckets 3 2;");
        q.put(999, 0);
        both(q, "the last BUCKET", 3, 999, 0);
        q.put(700, 1);
        both(q, "the first of it", 3, 999, 0);
        q.put(600, 2);
        both(q, "one ahead of it", 3, 600, 2);
        q.put(0, 3);
        q.put(0, 4);
        both(q, "the first of all", 3, 0, 3);
        int[] keys = {0, 0, 600, 999, 700};
        for (int key : keys) {
            q.take();
            Check.due("OUT", Check.out(q, 3, 0), key);
        }
        Check.due("none", q.head(3, 0), -2);
        q.take();
        Check.due("none: a MISS", q.of(3, 4), 1);
    }

    /** "BOTH: TAKE, then PUT." */
    private static void bucketBoth() {
        BeatQueues q = Check.told("buckets 2 1;");
        q.both(100, 0);
        Check.due("none: a MISS", q.of(3, 4), 1);
        Check.row(q, "it comes all the same", 3, 0, 100, -2);
        q.both(200, 1);
        Check.row(q, "TAKE makes room", 3, 0, 200, -2);
        q.put(600, 2);
        q.both(700, 3);
        Check.due("OUT", Check.out(q, 3, 0), 200);
        Check.row(q, "no room in the other BUCKET", 3, 0, -2, 600);
        Check.due("LOST", q.of(3, 2), 1);
        q.both(1, 4);
        Check.due("HEAD is OUT, not what comes", Check.out(q, 3, 0), 600);
        Check.row(q, "in the first BUCKET", 3, 0, 1, -2);
    }

    /** "CANCEL: as in the HANDING ROW." */
    private static void bucketCancel() {
        BeatQueues q = Check.told("buckets 2 3;");
        q.put(1, 9);
        q.put(900, 0);
        q.put(2, 0);
        q.cancel(0);
        Check.due("the least STAMP", q.kept(3, 3, 3), 1);
        Check.due("not the other one", q.kept(3, 1, 3), 0);
        q.cancel(0);
        Check.due("the other one", q.kept(3, 1, 3), 1);
        Check.row(q, "all are there", 3, 0, 1, 2, -2, 900);
        q.cancel(0);
        Check.due("none: nothing", q.of(3, 1), 2);
        // a MARKED one holds its PLACE
        q.put(3, 1);
        q.put(4, 1);
        Check.due("LOST", q.of(3, 2), 1);
    }

    // ---- MARKED HEADS ----

    private static BeatQueues threeMarkedBeforeNine() {
        BeatQueues q = Check.told("row 16;levels 3;buckets 1 8;");
        q.put(5, 0);
        q.renew(6, 0);
        q.renew(7, 0);
        q.renew(9, 0);
        of(q, "ENTRIES", 0, 1, 4, 4, 4);
        of(q, "MARKED", 1, 0, 3, 3, 3);
        of(q, "none was SWEPT", 5, 0, 0, 0, 0);
        return q;
    }

    /** "WAIT: if HEAD is MARKED, it is SWEPT: as TAKE, but nothing is OUT." */
    private static void waitSweepsOne() {
        BeatQueues q = threeMarkedBeforeNine();
        for (int i = 1; i <= 3; i++) {
            q.pause();
            of(q, "one in a BEAT", 5, 0, i, i, i);
            of(q, "nothing is OUT", 6, 0, 0, 0, 0);
            of(q, "no MISS", 4, 0, 0, 0, 0);
            outs(q, "nothing is OUT", -2, -2, -2, -2);
        }
        q.pause();
        of(q, "HEAD isn't MARKED", 5, 0, 3, 3, 3);
        for (int m = 0; m < 4; m++) {
            both(q, "HEAD of " + m, m, 9, 0);
        }
        Check.due("FREE", q.free(1), 6);
        q.take();
        q.pause();
        of(q, "there is no HEAD", 5, 0, 3, 3, 3);
        of(q, "no MISS by WAIT", 4, 0, 0, 0, 0);
    }

    /** "CANCEL: likewise, behind what it has MARKED." */
    private static void cancelSweepsBehindMarking() {
        BeatQueues q = new BeatQueues();
        q.put(5, 1);
        q.put(6, 2);
        q.cancel(1);
        of(q, "it MARKS HEAD and sweeps it", 5, 0, 1, 1, 1);
        of(q, "one is left", 0, 1, 1, 1, 1);
        of(q, "none is MARKED", 1, 0, 0, 0, 0);
        q = threeMarkedBeforeNine();
        q.cancel(0);
        of(q, "it MARKS 9, sweeps 5", 5, 0, 1, 1, 1);
        of(q, "all that is left is MARKED", 1, 0, 3, 3, 3);
        q.cancel(31);
        of(q, "it MARKS none, sweeps 6", 5, 0, 2, 2, 2);
        q.cancel(0);
        of(q, "those with the NAME are MARKED already", 5, 0, 3, 3, 3);
        q.cancel(0);
        of(q, "none is left", 0, 0, 0, 0, 0);
        q.cancel(0);
        of(q, "there is no HEAD", 5, 0, 4, 4, 4);
        of(q, "no MISS", 4, 0, 0, 0, 0);
    }

    /** "TAKE, BOTH: if HEAD is MARKED, it is SWEPT in place of being OUT (a MISS), all else as told." */
    private static void takeAndBothSweep() {
        BeatQueues q = threeMarkedBeforeNine();
        q.take();
        outs(q, "SWEPT in place of being OUT", 9, -2, -2, -2);
        of(q, "SWEPT", 5, 0, 1, 1, 1);
        of(q, "a MISS", 4, 0, 1, 1, 1);
        of(q, "ENTRIES", 0, 0, 3, 3, 3);
        q.both(8, 1);
        outs(q, "SWEPT in place of being OUT", -2, -2, -2, -2);
        of(q, "SWEPT", 5, 0, 2, 2, 2);
        of(q, "a MISS", 4, 1, 2, 2, 2);
        of(q, "the new one has come", 0, 1, 3, 3, 3);
        q.take();
        of(q, "SWEPT", 5, 0, 3, 3, 3);
        q.take();
        outs(q, "8 ahead of 9, but for the BUCKETS", -2, 8, 8, 9);
        for (int m = 1; m < 4; m++) {
            Check.due("what is SWEPT has not WAITED " + m, q.waited(m, 0), m == 3 ? 7 - 3 : 7 - 5);
            Check.due("what is SWEPT is not in the log " + m, q.log(m, 1, 0), -2);
        }
    }

    /** "PUT, RENEW: nothing of that." */
    private static void putAndRenewDoNotSweep() {
        BeatQueues q = new BeatQueues();
        q.put(5, 0);
        q.renew(6, 0);
        q.put(7, 1);
        q.renew(8, 1);
        q.renew(9, 2);
        of(q, "none was SWEPT", 5, 0, 0, 0, 0);
        for (int m = 1; m < 4; m++) {
            both(q, "HEAD stays " + m, m, 5, 0);
            Check.due("MARKED " + m, q.head(m, 3), 1);
        }
        // a MARKED HEAD can be HANDED on by one that is LESS, and comes back
        BeatQueues r = new BeatQueues();
        r.put(5, 0);
        r.renew(3, 0);
        Check.due("HANDED on", r.handed(0, 3), 1);
        Check.due("HEAD isn't MARKED", r.head(1, 3), 0);
        r.pause();
        Check.due("not SWEPT", r.of(1, 5), 0);
        Check.due("SETTLED", r.of(1, 7), 1);
        Check.due("MARKED in CELL 1", r.kept(1, 1, 3), 1);
        r.take();
        Check.due("HEAD is MARKED", r.head(1, 3), 1);
        Check.due("not SETTLED", r.of(1, 7), 0);
        r.pause();
        Check.due("SWEPT", r.of(1, 5), 1);
    }

    /** "all else as told": what comes by BOTH has the room of what is SWEPT. */
    private static void sweptHeadsOfFullMachines() {
        BeatQueues q = Check.told("row 1;levels 1;buckets 1 1;");
        q.put(5, 0);
        q.renew(6, 0);
        of(q, "REFUSED", 3, 0, 0, 1, 0);
        of(q, "LOST", 2, 0, 0, 0, 1);
        q.both(7, 1);
        // the HANDING ROW: 6 is LOST ahead of the ACT
        of(q, "LOST", 2, 0, 1, 0, 1);
        of(q, "REFUSED", 3, 0, 0, 1, 0);
        of(q, "SWEPT", 5, 0, 1, 1, 1);
        for (int m = 0; m < 4; m++) {
            both(q, "it has come " + m, m, 7, 1);
        }
        Check.due("FREE", q.free(1), 0);
    }

    /** "RENEW: if there is one with the NAME that isn't MARKED, that which CANCEL would take is taken out, MARKED" */
    private static void renewTakesWhatCancelWould() {
        BeatQueues q = new BeatQueues();
        q.put(30, 0);
        q.put(20, 0);
        q.put(10, 1);
        q.pause();
        q.renew(5, 0);
        Check.row(q, "30 is taken out", 0, 0, 5, 10, 20, -2);
        for (int m = 1; m < 4; m++) {
            Check.due("30 is MARKED " + m, q.of(m, 1), 1);
            Check.due("two are not " + m, q.holds(m, 0), 2);
        }
        q.renew(40, 0);
        Check.row(q, "20 is taken out", 0, 0, 5, 10, 40, -2);
        q.renew(50, 0);
        Check.row(q, "5, which came ahead of 40", 0, 0, 10, 40, 50, -2);
        of(q, "MARKED", 1, 0, 3, 3, 3);
        of(q, "nothing is SWEPT", 5, 0, 0, 0, 0);
        of(q, "nothing is OUT", 6, 0, 0, 0, 0);
    }

    /** "else nothing" */
    private static void renewOfNone() {
        BeatQueues q = new BeatQueues();
        Check.due("of an empty one, a BEAT", q.renew(5, 0), 1);
        of(q, "nothing", 0, 0, 0, 0, 0);
        q.put(50, 0);
        q.put(30, 0);
        Check.due("of another NAME, a BEAT", q.renew(5, 1), 4);
        of(q, "nothing", 0, 2, 2, 2, 2);
        Check.hands(q, "but what is on its way goes on", -2, -2);
        Check.noToken(q, "but what is on its way goes on", 1);
        q.cancel(0);
        q.cancel(0);
        q.renew(5, 0);
        Check.due("none isn't MARKED", q.of(1, 0), q.of(1, 1));
        Check.due("none isn't MARKED", q.of(2, 0), q.of(2, 1));
        Check.due("none", q.of(0, 0), 0);
    }

    /** RENEW, "then PUT": one that is LOST or REFUSED, though the one ahead of it is MARKED. */
    private static void renewWithoutRoom() {
        BeatQueues q = Check.told("row 2;levels 1;buckets 2 1;");
        q.put(100, 0);
        q.renew(900, 0);
        Check.row(q, "SHIFT ROW: room by what is taken out", 0, 0, 900, -2);
        Check.row(q, "HANDING ROW", 1, 0, 100, -2);
        Check.hands(q, "HANDING ROW", 900, -2);
        Check.due("HEAP: REFUSED", q.of(2, 3), 1);
        Check.due("HEAP: MARKED all the same", q.head(2, 3), 1);
        Check.row(q, "BUCKETS: in another one", 3, 0, 100, 900);
        q.renew(200, 0);
        // the HEAP has none that isn't MARKED, so that nothing is REFUSED
        Check.due("HEAP: nothing", q.of(2, 3), 1);
        Check.due("BUCKETS: LOST", q.of(3, 2), 1);
        Check.due("BUCKETS: MARKED", q.of(3, 1), 2);
        Check.row(q, "SHIFT ROW", 0, 0, 200, -2);
    }
}
