import java.math.BigInteger;

/**
 * Promises 6 to 42, one method each or more: what is answered at the least and the largest number that
 * a call takes, for NONE, -2, -3, for what is empty, full, LOST, REFUSED or missing; and the sentences
 * of "Terms" about what is tried, drawn, undone and kept.
 */
public final class AnswerEdgesTest {
    private static final int[] NO_MACHINE = {-1, 4, 5, Integer.MIN_VALUE, Integer.MAX_VALUE};

    public static void main(String[] args) {
        beatsAreCounted();
        beatsOfNoSuchNumbers();
        nineThousandNineHundredNinetyNine();
        runFarAsItGoes();
        outOfTheLatestBeat();
        outThrows();
        headOfEach();
        keptInEach();
        handedByACell();
        tokenOfALevel();
        freeOfANode();
        ofEach();
        holdsUnmarkedAlone();
        placeOfWhatCancelTakes();
        waitedInSumAndMost();
        settleInBeatsOfWait();
        drainedSixtyAtMost();
        drainedMissesAside();
        drainedBehindSixtyMisses();
        drainsOfEach();
        unlikeByStamps();
        turnOfTheFirst();
        apartByCouples();
        isLeastOfAll();
        aheadAsFarAsThePlanGoes();
        differsInBeats();
        leastRowByThePlan();
        leastRowWaitsForty();
        leastLevelsByThePlan();
        leastDeepByThePlan();
        swapsOfCouples();
        landsInEach();
        landsBehindWaits();
        landsWhereItIsLost();
        logOfTwenty();
        chanceIsAsByCall();
        chanceOfWrongNumbers();
        undoOfEach();
        undoTwenty();
        imageOfAll();
        backAndUndo();
        counts();
        nothingIsChangedByWhatIsAsked();
        Check.end();
    }

    private static void each(String what, int[] got, int... want) {
        for (int m = 0; m < want.length; m++) {
            Check.due(what + " " + m, got[m], want[m]);
        }
    }

    private static BeatQueues fiftyThirty() {
        BeatQueues q = new BeatQueues();
        q.put(50, 0);
        q.put(30, 1);
        return q;
    }

    /** A MARKED HEAD with KEY 5 in all but the SHIFT ROW, and 7 behind it. */
    private static BeatQueues fiveMarkedBeforeSeven() {
        BeatQueues q = new BeatQueues();
        q.put(5, 0);
        q.renew(7, 0);
        return q;
    }

    // ---- 6 to 12 ----

    /** Promises 6 to 11: "how many BEATS there were", the least and the largest KEY and NAME */
    private static void beatsAreCounted() {
        BeatQueues q = Check.told("row 16;levels 4;buckets 8 8;");
        int beats = 0;
        for (int key : new int[] {0, 1, 998, 999}) {
            for (int name : new int[] {0, 1, 30, 31}) {
                Check.due("put", q.put(key, name), ++beats);
                Check.due("both", q.both(key, name), ++beats);
                Check.due("renew", q.renew(key, name), ++beats);
                Check.due("cancel", q.cancel(name), ++beats);
                Check.due("take", q.take(), ++beats);
                Check.due("pause", q.pause(), ++beats);
            }
        }
        Check.due("BEATS", q.count(4), beats);
        BeatQueues r = new BeatQueues();
        r.put(0, 31);
        r.put(999, 0);
        Check.due("KEY 0", r.kept(0, 0, 0), 0);
        Check.due("NAME 31", r.kept(0, 0, 1), 31);
        Check.due("KEY 999", r.kept(0, 1, 0), 999);
        Check.due("NAME 0", r.kept(0, 1, 1), 0);
        Check.due("KEY 999 in the last BUCKET", r.kept(3, 12, 0), 999);
    }

    /** "NONE: no such ones": no BEAT is done */
    private static void beatsOfNoSuchNumbers() {
        BeatQueues q = fiveMarkedBeforeSeven();
        q.take();
        String before = TrialsTest.look(q);
        int[] keys = {-1, 1000, 1001, Integer.MIN_VALUE, Integer.MAX_VALUE};
        int[] names = {-1, 32, 33, Integer.MIN_VALUE, Integer.MAX_VALUE};
        for (int i = 0; i < 5; i++) {
            Check.due("put: no such KEY", q.put(keys[i], 0), -1);
            Check.due("put: no such NAME", q.put(0, names[i]), -1);
            Check.due("put: neither", q.put(keys[i], names[i]), -1);
            Check.due("both: no such KEY", q.both(keys[i], 0), -1);
            Check.due("both: no such NAME", q.both(0, names[i]), -1);
            Check.due("both: neither", q.both(keys[i], names[i]), -1);
            Check.due("renew: no such KEY", q.renew(keys[i], 0), -1);
            Check.due("renew: no such NAME", q.renew(0, names[i]), -1);
            Check.due("renew: neither", q.renew(keys[i], names[i]), -1);
            Check.due("cancel: no such NAME", q.cancel(names[i]), -1);
        }
        for (int n : new int[] {0, -1, 41, 42, Integer.MIN_VALUE, Integer.MAX_VALUE}) {
            Check.due("run: no such n", q.run(n), -1);
        }
        Check.holds("nothing is done", before.equals(TrialsTest.look(q)));
        Check.due("what can be undone", q.count(6), 3);
        Check.due("what is OUT stays", Check.out(q, 0, 0), 7);
    }

    /** "9999 BEATS at most": "-2: there were 9999"; "what is tried is not bound by 9999 BEATS" */
    private static void nineThousandNineHundredNinetyNine() {
        BeatQueues q = Check.told("put a 5;put a 6;take;take;take;");
        for (int i = 0; i < 9996; i++) {
            q.pause();
        }
        Check.due("9997", q.put(50, 3), 9997);
        Check.due("as far as 9999 BEATS go", q.run(40), 2);
        Check.due("9999", q.count(4), 9999);
        String before = TrialsTest.look(q);
        Check.due("put", q.put(1, 1), -2);
        Check.due("take", q.take(), -2);
        Check.due("both", q.both(1, 1), -2);
        Check.due("pause", q.pause(), -2);
        Check.due("cancel", q.cancel(1), -2);
        Check.due("renew", q.renew(1, 1), -2);
        Check.due("run", q.run(1), 0);
        Check.due("NONE goes ahead of -2: put", q.put(1, 32), -1);
        Check.due("NONE goes ahead of -2: both", q.both(1000, 1), -1);
        Check.due("NONE goes ahead of -2: renew", q.renew(-1, 1), -1);
        Check.due("NONE goes ahead of -2: cancel", q.cancel(-1), -1);
        Check.due("NONE of run", q.run(41), -1);
        Check.holds("nothing is done", before.equals(TrialsTest.look(q)));
        // 5, 6, 50 came in BEATS 9997, 9998, 9996
        each("tried: ahead", new int[] {q.ahead(1, 0, 0), q.ahead(2, 0, 0), q.ahead(3, 0, 0)}, 6, 50, -2);
        Check.due("tried: drained", q.drains(3), 3);
        Check.due("tried: drained", q.drained(0, 0, 2), 9997);
        Check.due("tried: lands", q.lands(0, 10), 2);
        Check.due("tried: settle", q.settle(1), 2);
        Check.due("tried: chance", q.chance(0, 60, 0, 0) > 10 ? 1 : 0, 1);
        Check.due("keep", q.keep(), 9999);
        Check.due("undo", q.undo(), 19);
        Check.due("one more", q.renew(7, 3), 9999);
        Check.due("back", q.back(), 9999);
        Check.due("none more", q.pause(), -2);
    }

    /** Promise 12: "n 1 .. 40 BEATS of the PLAN, as far as it goes .. how many" */
    private static void runFarAsItGoes() {
        Check.due("no PLAN", new BeatQueues().run(1), 0);
        Check.due("settings alone", Check.told("row 3;seed 4;").run(40), 0);
        BeatQueues q = Check.told("row 3;" + "put a 1;".repeat(40));
        Check.due("1", q.run(1), 1);
        Check.due("38", q.run(38), 38);
        Check.due("the last one", q.run(40), 1);
        Check.due("no more", q.run(40), 0);
        Check.due("no more", q.run(1), 0);
        Check.due("BEATS", q.count(4), 40);
        Check.due("how far", q.count(3), 40);
        BeatQueues r = Check.told("put a 1;".repeat(40));
        Check.due("40", r.run(40), 40);
        BeatQueues s = Check.told("put a 9;put b 8;take;");
        s.put(1, 5);
        Check.due("BEATS by call lie between", s.run(2), 2);
        s.put(2, 6);
        Check.due("the last one", s.run(2), 1);
        Check.due("its STAMPS are those of all BEATS", Check.out(s, 0, 2), 0);
        Check.due("b's STAMP", s.drained(0, 1, 2), 2);
    }

    // ---- 13 to 22 ----

    /** Promise 13: "What was OUT of a MACHINE in the latest BEAT .. -2: nothing, no BEAT was." */
    private static void outOfTheLatestBeat() {
        BeatQueues q = new BeatQueues();
        for (int m = 0; m < 4; m++) {
            for (int what = 0; what < 3; what++) {
                Check.due("no BEAT was", Check.out(q, m, what), -2);
            }
        }
        q.put(999, 31);
        q.put(0, 0);
        q.take();
        int[][] want = {{0, 0, 1}, {0, 0, 1}, {0, 0, 1}, {0, 0, 1}};
        for (int m = 0; m < 4; m++) {
            for (int what = 0; what < 3; what++) {
                Check.due("KEY 0, NAME 0", Check.out(q, m, what), want[m][what]);
            }
        }
        q.both(5, 5);
        Check.due("by BOTH", Check.out(q, 2, 0), 999);
        Check.due("by BOTH", Check.out(q, 2, 1), 31);
        q.pause();
        Check.due("nothing in the latest one", Check.out(q, 2, 0), -2);
        q.take();
        q.take();
        Check.due("a MISS", Check.out(q, 2, 0), -2);
        q.undo();
        Check.due("the latest one is that ahead", Check.out(q, 2, 0), 5);
        // what is SWEPT is not OUT
        BeatQueues r = fiveMarkedBeforeSeven();
        r.take();
        each("SWEPT", new int[] {Check.out(r, 0, 0), Check.out(r, 1, 0), Check.out(r, 2, 0), Check.out(r, 3, 0)},
                7, -2, -2, -2);
    }

    /** Promise 13: "IndexOutOfBoundsException: no such MACHINE. NoSuchElementException: no such what." */
    private static void outThrows() {
        BeatQueues[] states = {new BeatQueues(), fiftyThirty(), fiftyThirty()};
        states[2].take();
        for (BeatQueues q : states) {
            String before = TrialsTest.look(q);
            for (int machine : NO_MACHINE) {
                for (int what : new int[] {-1, 0, 1, 2, 3, Integer.MIN_VALUE, Integer.MAX_VALUE}) {
                    Check.due("no such MACHINE goes ahead", Check.out(q, machine, what), 1001);
                }
            }
            for (int m = 0; m < 4; m++) {
                for (int what : new int[] {-1, 3, 4, Integer.MIN_VALUE, Integer.MAX_VALUE}) {
                    Check.due("no such what, also with nothing OUT", Check.out(q, m, what), 1002);
                }
            }
            Check.holds("nothing is changed", before.equals(TrialsTest.look(q)));
        }
    }

    /** Promise 14 */
    private static void headOfEach() {
        BeatQueues q = new BeatQueues();
        for (int m = 0; m < 4; m++) {
            for (int what = 0; what < 4; what++) {
                Check.due("none", q.head(m, what), -2);
            }
            for (int what : new int[] {-1, 4, Integer.MIN_VALUE, Integer.MAX_VALUE}) {
                Check.due("NONE goes ahead of -2", q.head(m, what), -1);
            }
        }
        for (int m : NO_MACHINE) {
            Check.due("no such MACHINE", q.head(m, 0), -1);
        }
        q = fiveMarkedBeforeSeven();
        int[][] want = {{7, 0, 1, 0}, {5, 0, 0, 1}, {5, 0, 0, 1}, {5, 0, 0, 1}};
        for (int m = 0; m < 4; m++) {
            for (int what = 0; what < 4; what++) {
                Check.due("head(" + m + "," + what + ")", q.head(m, what), want[m][what]);
            }
        }
    }

    /** Promise 15: the first and the last place of each MACHINE, of the smallest and the largest ones */
    private static void keptInEach() {
        String[] texts = {"row 1;levels 1;buckets 1 1;", "", "row 16;levels 4;buckets 8 8;", "buckets 1 8;", "buckets 8 1;"};
        int[][] lasts = {{0, 0, 1, 0}, {7, 7, 7, 15}, {15, 15, 15, 63}, {7, 7, 7, 7}, {7, 7, 7, 7}};
        for (int t = 0; t < texts.length; t++) {
            BeatQueues q = Check.told(texts[t]);
            for (int m = 0; m < 4; m++) {
                int first = m == 2 ? 1 : 0;
                for (int i = -2; i < 70; i++) {
                    boolean isOne = i >= first && i <= lasts[t][m];
                    for (int what = -1; what <= 4; what++) {
                        boolean isPart = what >= 0 && what <= 3;
                        Check.due("kept(" + m + "," + i + "," + what + ")", q.kept(m, i, what), isOne && isPart ? -2 : -1);
                    }
                }
                Check.due("far off", q.kept(m, Integer.MIN_VALUE, 0), -1);
                Check.due("far off", q.kept(m, Integer.MAX_VALUE, 0), -1);
            }
            for (int m : NO_MACHINE) {
                Check.due("no such MACHINE", q.kept(m, 1, 0), -1);
            }
        }
        BeatQueues q = Check.told("row 1;levels 1;buckets 1 1;");
        q.put(999, 31);
        int[] want = {999, 31, 0, 0};
        for (int what = 0; what < 4; what++) {
            each("full", new int[] {q.kept(0, 0, what), q.kept(1, 0, what), q.kept(2, 1, what), q.kept(3, 0, what)},
                    want[what], want[what], want[what], want[what]);
        }
    }

    /** Promise 16 */
    private static void handedByACell() {
        for (int row : new int[] {1, 8, 16}) {
            BeatQueues q = Check.told("row " + row + ";");
            for (int i = -2; i < 20; i++) {
                boolean isOne = i >= 0 && i < row;
                for (int what = -1; what <= 4; what++) {
                    boolean isPart = what >= 0 && what <= 3;
                    Check.due("handed(" + i + "," + what + ")", q.handed(i, what), isOne && isPart ? -2 : -1);
                }
            }
            Check.due("far off", q.handed(Integer.MIN_VALUE, 0), -1);
            Check.due("far off", q.handed(Integer.MAX_VALUE, 0), -1);
        }
        BeatQueues q = Check.told("row 1;");
        q.put(3, 1);
        q.put(999, 31);
        int[] want = {999, 31, 1, 0};
        for (int what = 0; what < 4; what++) {
            Check.due("by the last CELL", q.handed(0, what), want[what]);
        }
        q = fiveMarkedBeforeSeven();
        q.renew(3, 0);
        // 7 came to CELL 1 and is MARKED there; 5, MARKED too, is HANDED on by CELL 0
        Check.due("MARKED", q.handed(0, 3), 1);
        Check.due("its KEY", q.handed(0, 0), 5);
    }

    /** Promise 17 */
    private static void tokenOfALevel() {
        for (int levels = 1; levels <= 4; levels++) {
            BeatQueues q = Check.told("levels " + levels + ";");
            for (int level = -2; level < 7; level++) {
                boolean isOne = level >= 1 && level < levels;
                for (int what = -1; what <= 5; what++) {
                    boolean isPart = what >= 0 && what <= 4;
                    Check.due("token(" + level + "," + what + ")", q.token(level, what), isOne && isPart ? -2 : -1);
                }
            }
            Check.due("far off", q.token(Integer.MIN_VALUE, 0), -1);
            Check.due("far off", q.token(Integer.MAX_VALUE, 0), -1);
        }
        // all three levels have a TOKEN at once
        BeatQueues q = Check.told("levels 4;");
        for (int i = 1; i <= 6; i++) {
            q.put(i, i);
        }
        int[][] comes = {{2, 0, 6, 6, 5}, {4, 0, 5, 5, 4}, {8, 0, 4, 4, 3}};
        for (int what = 0; what < 5; what++) {
            for (int level = 1; level <= 3; level++) {
                Check.due("COMES, level " + level, q.token(level, what), comes[level - 1][what]);
            }
        }
        q.take();
        int[] hole = {2, 1, -2, -2, -2};
        for (int what = 0; what < 5; what++) {
            Check.due("HOLE, -2 of 2 .. 4", q.token(1, what), hole[what]);
        }
        q.both(999, 31);
        int[] changes = {2, 2, 999, 31, 7};
        for (int what = 0; what < 5; what++) {
            Check.due("CHANGES", q.token(1, what), changes[what]);
        }
        Check.due("no such what with a TOKEN", q.token(1, 5), -1);
        Check.due("no such what with a TOKEN", q.token(1, -1), -1);
    }

    /** Promise 18 */
    private static void freeOfANode() {
        int[] whole = {1, 3, 7, 15};
        for (int levels = 1; levels <= 4; levels++) {
            BeatQueues q = Check.told("levels " + levels + ";");
            Check.due("of NODE 1", q.free(1), whole[levels - 1]);
            Check.due("of the last NODE", q.free(whole[levels - 1]), 1);
            Check.due("behind the last NODE", q.free(whole[levels - 1] + 1), -1);
            for (int node : new int[] {0, -1, 16, 31, 32, Integer.MIN_VALUE, Integer.MAX_VALUE}) {
                Check.due("no such NODE", q.free(node), -1);
            }
            for (int i = 0; i < whole[levels - 1] + 3; i++) {
                q.put(i, 0);
            }
            for (int node = 1; node <= whole[levels - 1]; node++) {
                Check.due("full", q.free(node), 0);
            }
            Check.due("REFUSED", q.of(2, 3), 3);
        }
    }

    /** Promise 19 */
    private static void ofEach() {
        BeatQueues q = new BeatQueues();
        for (int m = 0; m < 4; m++) {
            for (int what = 0; what < 7; what++) {
                Check.due("none", q.of(m, what), 0);
            }
            Check.due("SETTLED", q.of(m, 7), 1);
            for (int what : new int[] {-1, 8, 9, Integer.MIN_VALUE, Integer.MAX_VALUE}) {
                Check.due("no such what", q.of(m, what), -1);
            }
        }
        for (int m : NO_MACHINE) {
            for (int what = 0; what < 8; what++) {
                Check.due("no such MACHINE", q.of(m, what), -1);
            }
        }
        // a full row of each: 16 CELLS with 16 more HANDED on, 15 NODES, 64 PLACES
        BeatQueues r = Check.told("row 16;levels 4;buckets 8 8;");
        for (int i = 0; i < 64; i++) {
            r.put(i / 8 * 125, i / 16);
        }
        each("ENTRIES", new int[] {r.of(0, 0), r.of(1, 0), r.of(2, 0), r.of(3, 0)}, 16, 32, 15, 64);
        each("LOST", new int[] {r.of(0, 2), r.of(1, 2), r.of(2, 2), r.of(3, 2)}, 48, 32, 0, 0);
        each("REFUSED", new int[] {r.of(0, 3), r.of(1, 3), r.of(2, 3), r.of(3, 3)}, 0, 0, 49, 0);
        for (int i = 0; i < 70; i++) {
            r.take();
        }
        each("OUT in all", new int[] {r.of(0, 6), r.of(1, 6), r.of(2, 6), r.of(3, 6)}, 16, 31, 15, 64);
        each("MISSES", new int[] {r.of(0, 4), r.of(1, 4), r.of(2, 4), r.of(3, 4)}, 54, 39, 55, 6);
        each("LOST", new int[] {r.of(0, 2), r.of(1, 2), r.of(2, 2), r.of(3, 2)}, 48, 33, 0, 0);
        // SETTLED: a HEAD that is MARKED, what is on its way
        BeatQueues s = fiveMarkedBeforeSeven();
        each("not SETTLED", new int[] {s.of(0, 7), s.of(1, 7), s.of(2, 7), s.of(3, 7)}, 1, 0, 0, 0);
        s.renew(3, 9);
        each("HEAD is MARKED", new int[] {s.of(0, 7), s.of(1, 7), s.of(2, 7), s.of(3, 7)}, 1, 0, 0, 0);
        s.pause();
        each("a HOLE is a TOKEN", new int[] {s.of(0, 7), s.of(1, 7), s.of(2, 7), s.of(3, 7)}, 1, 1, 0, 1);
        s.pause();
        each("SETTLED", new int[] {s.of(0, 7), s.of(1, 7), s.of(2, 7), s.of(3, 7)}, 1, 1, 1, 1);
    }

    /** Promise 20: "How many ENTRIES with a NAME 0 .. 31 a MACHINE has that are not MARKED" */
    private static void holdsUnmarkedAlone() {
        BeatQueues q = new BeatQueues();
        for (int m = 0; m < 4; m++) {
            Check.due("none", q.holds(m, 0), 0);
            Check.due("none", q.holds(m, 31), 0);
            for (int name : new int[] {-1, 32, Integer.MIN_VALUE, Integer.MAX_VALUE}) {
                Check.due("no such NAME", q.holds(m, name), -1);
            }
        }
        for (int m : NO_MACHINE) {
            Check.due("no such MACHINE", q.holds(m, 0), -1);
        }
        q.put(5, 31);
        q.put(6, 31);
        each("one of them on its way", new int[] {q.holds(0, 31), q.holds(1, 31), q.holds(2, 31), q.holds(3, 31)}, 2, 2, 2, 2);
        q.renew(7, 31);
        each("one is MARKED", new int[] {q.holds(0, 31), q.holds(1, 31), q.holds(2, 31), q.holds(3, 31)}, 2, 2, 2, 2);
        q.cancel(31);
        each("two are", new int[] {q.holds(0, 31), q.holds(1, 31), q.holds(2, 31), q.holds(3, 31)}, 1, 1, 1, 1);
        q.cancel(31);
        each("all are", new int[] {q.holds(0, 31), q.holds(1, 31), q.holds(2, 31), q.holds(3, 31)}, 0, 0, 0, 0);
    }

    /** Promise 21: "-3: HANDED on, with a TOKEN; -2: there is none; NONE: no such ones" */
    private static void placeOfWhatCancelTakes() {
        BeatQueues q = new BeatQueues();
        for (int m = 0; m < 4; m++) {
            Check.due("there is none", q.place(m, 0), -2);
            Check.due("there is none", q.place(m, 31), -2);
            for (int name : new int[] {-1, 32, Integer.MIN_VALUE, Integer.MAX_VALUE}) {
                Check.due("NONE goes ahead of -2", q.place(m, name), -1);
            }
        }
        for (int m : NO_MACHINE) {
            Check.due("no such MACHINE", q.place(m, 0), -1);
        }
        q.put(750, 31);
        each("the first place", new int[] {q.place(0, 31), q.place(1, 31), q.place(2, 31), q.place(3, 31)}, 0, 0, 1, 12);
        q.put(749, 31);
        each("the least STAMP", new int[] {q.place(0, 31), q.place(1, 31), q.place(2, 31), q.place(3, 31)}, 1, -3, -3, 12);
        q.pause();
        each("it has come", new int[] {q.place(0, 31), q.place(1, 31), q.place(2, 31), q.place(3, 31)}, 1, 1, 2, 12);
        q.cancel(31);
        each("the other one", new int[] {q.place(0, 31), q.place(1, 31), q.place(2, 31), q.place(3, 31)}, 0, 0, 1, 8);
        q.cancel(31);
        each("those that are left are MARKED", new int[] {q.place(0, 31), q.place(1, 31), q.place(2, 31), q.place(3, 31)},
                -2, -2, -2, -2);
        // the last places
        BeatQueues r = Check.told("row 2;levels 2;buckets 2 2;");
        r.put(600, 0);
        r.put(700, 1);
        r.put(800, 2);
        r.pause();
        each("the last place", new int[] {r.place(0, 1), r.place(1, 1), r.place(2, 2), r.place(3, 1)}, 1, 1, 3, 3);
        each("LOST", new int[] {r.place(0, 2), r.place(1, 2), r.place(3, 2)}, -2, -3, -2);
        // one that CHANGES has a TOKEN
        r.both(900, 5);
        Check.due("it CHANGES", r.place(2, 5), -3);
    }

    /** Promise 22: "Of all that were OUT of a MACHINE what 0 WAITED in sum, 1 the most" */
    private static void waitedInSumAndMost() {
        BeatQueues q = new BeatQueues();
        for (int m = 0; m < 4; m++) {
            Check.due("nothing was OUT", q.waited(m, 0), 0);
            Check.due("nothing was OUT", q.waited(m, 1), 0);
            for (int what : new int[] {-1, 2, Integer.MIN_VALUE, Integer.MAX_VALUE}) {
                Check.due("no such what", q.waited(m, what), -1);
            }
        }
        for (int m : NO_MACHINE) {
            Check.due("no such MACHINE", q.waited(m, 0), -1);
        }
        q.put(1, 0);
        q.take();
        for (int m = 0; m < 4; m++) {
            Check.due("a BEAT behind", q.waited(m, 0), 1);
            Check.due("a BEAT behind", q.waited(m, 1), 1);
        }
        q.take();
        Check.due("a MISS has not WAITED", q.waited(0, 0), 1);
        q.put(1, 0);
        for (int i = 0; i < 9; i++) {
            q.pause();
        }
        q.both(2, 0);
        q.both(3, 0);
        for (int m = 0; m < 4; m++) {
            Check.due("in sum", q.waited(m, 0), 1 + 10 + 1);
            Check.due("the most", q.waited(m, 1), 10);
        }
        q.undo();
        q.undo();
        Check.due("undone: in sum", q.waited(2, 0), 1);
        Check.due("undone: the most", q.waited(2, 1), 1);
    }

    // ---- 23 to 31 ----

    private static int[] settles(BeatQueues q) {
        return new int[] {q.settle(0), q.settle(1), q.settle(2), q.settle(3)};
    }

    /** Promise 23 */
    private static void settleInBeatsOfWait() {
        each("SETTLED now", settles(new BeatQueues()), 0, 0, 0, 0);
        for (int m : NO_MACHINE) {
            Check.due("no such MACHINE", new BeatQueues().settle(m), -1);
        }
        each("one is on its way", settles(fiftyThirty()), 0, 1, 1, 0);
        each("a MARKED HEAD; the HOLE takes a BEAT more", settles(fiveMarkedBeforeSeven()), 0, 1, 2, 1);
        BeatQueues q = Check.told("row 16;levels 4;buckets 8 8;");
        for (int i = 0; i < 17; i++) {
            q.put(i, 0);
        }
        // the 17th has 15 CELLS to pass, and is LOST in one BEAT more; the HEAP has REFUSED it, and the 15th
        // one has come to the last level while that was
        each("full", settles(q), 0, 16, 1, 0);
        BeatQueues s = Check.told("buckets 1 8;");
        s.put(9, 0);
        for (int i = 0; i < 7; i++) {
            s.put(1, 1);
        }
        for (int i = 0; i < 7; i++) {
            s.cancel(1);
        }
        Check.due("HEAD isn't MARKED, seven are", s.of(3, 1) * 10 + s.settle(3), 70);
        s.take();
        Check.due("seven BEATS", s.settle(3), 7);
        s.pause();
        Check.due("six BEATS", s.settle(3), 6);
    }

    /** "DRAINED: from now on TAKE alone, BEAT by BEAT, 60 at most, tried" */
    private static void drainedSixtyAtMost() {
        BeatQueues q = Check.told("buckets 8 8;");
        for (int i = 0; i < 61; i++) {
            q.put(i / 8 * 125, i % 32);
        }
        Check.due("60", q.drains(3), 60);
        for (int what = 0; what < 4; what++) {
            int[] last = {59 / 8 * 125, 59 % 32, 59, 59};
            Check.due("the last one", q.drained(3, 59, what), last[what]);
            Check.due("not so many", q.drained(3, 60, what), -2);
            Check.due("not so many", q.drained(3, Integer.MAX_VALUE, what), -2);
        }
        q.take();
        Check.due("60 are left", q.drains(3), 60);
        q.take();
        Check.due("59 are left", q.drains(3), 59);
        Check.due("not so many", q.drained(3, 59, 0), -2);
        for (int m = 0; m < 4; m++) {
            for (int k : new int[] {-1, -2, Integer.MIN_VALUE}) {
                Check.due("no such k", q.drained(m, k, 0), -1);
            }
            for (int what : new int[] {-1, 4, Integer.MIN_VALUE, Integer.MAX_VALUE}) {
                Check.due("no such what", q.drained(m, 0, what), -1);
                Check.due("NONE goes ahead of -2", q.drained(m, 100, what), -1);
            }
        }
        for (int m : NO_MACHINE) {
            Check.due("no such MACHINE", q.drained(m, 0, 0), -1);
        }
    }

    /** "the OUTS in order (MISSES aside)"; promise 24: "3 in which BEAT of these (0 on)" */
    private static void drainedMissesAside() {
        BeatQueues q = Check.told("buckets 1 8;");
        q.put(1, 5);
        q.put(2, 0);
        q.put(3, 0);
        q.put(4, 6);
        q.cancel(0);
        q.cancel(0);
        for (int m = 0; m < 4; m++) {
            Check.due("two " + m, q.drains(m), 2);
            Check.due("the first " + m, q.drained(m, 0, 0), 1);
            Check.due("in BEAT 0 " + m, q.drained(m, 0, 3), 0);
            Check.due("the other one " + m, q.drained(m, 1, 0), 4);
            Check.due("its NAME " + m, q.drained(m, 1, 1), 6);
            Check.due("its STAMP " + m, q.drained(m, 1, 2), 3);
            Check.due("behind two that are SWEPT " + m, q.drained(m, 1, 3), m == 0 ? 1 : 3);
            Check.due("no more " + m, q.drained(m, 2, 0), -2);
        }
        // what is on its way comes, too, but what the last CELL HANDS on is LOST
        BeatQueues r = Check.told("row 1;");
        r.put(3, 0);
        r.put(5, 1);
        Check.due("LOST ahead of the first TAKE", r.drains(1), 1);
    }

    /** "60 at most": BEATS, be they MISSES or not */
    private static void drainedBehindSixtyMisses() {
        BeatQueues q = Check.told("buckets 8 8;");
        for (int i = 0; i < 64; i++) {
            q.put(i / 8 * 125, i == 0 ? 0 : i == 63 ? 2 : 1);
        }
        for (int i = 0; i < 62; i++) {
            q.cancel(1);
        }
        Check.due("62 are MARKED, HEAD isn't", q.of(3, 1) * 10 + q.head(3, 3), 620);
        Check.due("SETTLED", q.settle(3), 0);
        Check.due("HEAD alone", q.drains(3), 1);
        Check.due("behind them", q.turn(3, 2), -2);
        q.take();
        Check.due("62 BEATS of WAIT", q.settle(3), 62);
        Check.due("60 MISSES", q.drains(3), 0);
        Check.due("60 MISSES", q.drained(3, 0, 0), -2);
        Check.due("behind 60", q.turn(3, 2), -2);
        q.pause();
        q.pause();
        Check.due("the 61st BEAT", q.turn(3, 2), -2);
        q.pause();
        Check.due("the last of 60", q.turn(3, 2), 59);
        Check.due("one", q.drains(3), 1);
        Check.due("in which BEAT", q.drained(3, 0, 3), 59);
    }

    /** Promise 25 */
    private static void drainsOfEach() {
        BeatQueues q = new BeatQueues();
        each("none", new int[] {q.drains(0), q.drains(1), q.drains(2), q.drains(3)}, 0, 0, 0, 0);
        for (int m : NO_MACHINE) {
            Check.due("no such MACHINE", q.drains(m), -1);
        }
        BeatQueues r = fiveMarkedBeforeSeven();
        each("MARKED ones aside", new int[] {r.drains(0), r.drains(1), r.drains(2), r.drains(3)}, 1, 1, 1, 1);
        r.cancel(0);
        each("all are MARKED", new int[] {r.drains(0), r.drains(1), r.drains(2), r.drains(3)}, 0, 0, 0, 0);
    }

    /** Promise 26: "The first k by which .. is unlike (STAMPS; one gives more); -2: they give the same" */
    private static void unlikeByStamps() {
        BeatQueues q = new BeatQueues();
        for (int one = 0; one < 4; one++) {
            for (int other = 0; other < 4; other++) {
                Check.due("both give none", q.unlike(one, other), -2);
            }
            for (int m : NO_MACHINE) {
                Check.due("no such MACHINE", q.unlike(one, m), -1);
                Check.due("no such MACHINE", q.unlike(m, one), -1);
                Check.due("no such MACHINES", q.unlike(m, m), -1);
            }
        }
        // like KEYS, other STAMPS: the BUCKETS have LOST the LESS one's like
        BeatQueues r = Check.told("buckets 1 2;row 2;");
        r.put(9, 0);
        r.put(5, 0);
        r.put(5, 1);
        Check.due("SHIFT ROW: 5, 5; BUCKETS: 9, 5", r.unlike(0, 3), 0);
        r.take();
        Check.due("SHIFT ROW: the later 5; BUCKETS: the other 5", r.unlike(0, 3), 0);
        BeatQueues s = Check.told("buckets 1 1;levels 2;");
        for (int i = 0; i < 4; i++) {
            s.put(i, 0);
        }
        Check.due("one gives more", s.unlike(3, 0), 1);
        Check.due("one gives more", s.unlike(0, 3), 1);
        Check.due("one gives more", s.unlike(2, 0), 3);
        s.take();
        Check.due("one gives none", s.unlike(3, 0), 0);
        Check.due("one gives none", s.unlike(0, 3), 0);
    }

    /** Promise 27: "-2: in none of 60" */
    private static void turnOfTheFirst() {
        BeatQueues q = new BeatQueues();
        for (int m = 0; m < 4; m++) {
            Check.due("there is none", q.turn(m, 0), -2);
            for (int name : new int[] {-1, 32, Integer.MIN_VALUE, Integer.MAX_VALUE}) {
                Check.due("NONE goes ahead of -2", q.turn(m, name), -1);
            }
        }
        for (int m : NO_MACHINE) {
            Check.due("no such MACHINE", q.turn(m, 0), -1);
        }
        q.put(5, 31);
        q.put(6, 0);
        q.put(7, 31);
        for (int m = 0; m < 4; m++) {
            Check.due("0 on", q.turn(m, 31), 0);
            Check.due("the next one", q.turn(m, 0), 1);
        }
        q.cancel(31);
        q.cancel(0);
        // 5 is SWEPT by the first CANCEL; 6, by the second one
        for (int m = 0; m < 4; m++) {
            Check.due("the other one", q.turn(m, 31), 0);
            Check.due("no more", q.turn(m, 0), -2);
        }
        BeatQueues r = fiveMarkedBeforeSeven();
        each("the MARKED one takes a BEAT", new int[] {r.turn(0, 0), r.turn(1, 0), r.turn(2, 0), r.turn(3, 0)}, 0, 1, 1, 1);
        BeatQueues s = Check.told("buckets 8 8;");
        for (int i = 0; i < 61; i++) {
            s.put(i / 8 * 125, i < 59 ? 0 : i - 58);
        }
        Check.due("in the last of 60", s.turn(3, 1), 59);
        Check.due("in none of 60", s.turn(3, 2), -2);
    }

    private static int[] aparts(BeatQueues q) {
        return new int[] {q.apart(0), q.apart(1), q.apart(2), q.apart(3)};
    }

    /** Promise 28: "how many couples of these are such that the LESS one lies behind" */
    private static void apartByCouples() {
        each("none", aparts(new BeatQueues()), 0, 0, 0, 0);
        for (int m : NO_MACHINE) {
            Check.due("no such MACHINE", new BeatQueues().apart(m), -1);
        }
        BeatQueues q = new BeatQueues();
        q.put(5, 0);
        each("one alone", aparts(q), 0, 0, 0, 0);
        q.put(5, 1);
        q.pause();
        each("like ones in order", aparts(q), 0, 0, 0, 0);
        // the HEAP by NODES: 10, 20, 50, 30, 40, 60, 70 has 50 ahead of 30 and 40
        BeatQueues r = Check.told("row 16;");
        for (int i = 1; i <= 7; i++) {
            r.put(10 * i, i);
        }
        r.pause();
        r.pause();
        each("seven", aparts(r), 0, 0, 2, 0);
        // all the other way round in BUCKETS of 8
        BeatQueues s = Check.told("buckets 8 8;row 16;levels 4;");
        for (int i = 63; i >= 0; i--) {
            s.put(i / 8 * 125 + i % 8, 0);
        }
        Check.due("28 couples of each", s.apart(3), 8 * 28);
        // what is HANDED on and what TOKENS have doesn't lie anywhere; MARKED ones do
        each("on its way", aparts(fiftyThirty()), 0, 0, 0, 1);
        BeatQueues t = fiftyThirty();
        t.put(1, 2);
        t.cancel(1);
        Check.due("MARKED ones, too: 50, 30, 1", t.apart(3), 3);
    }

    private static int[] leasts(BeatQueues q) {
        return new int[] {q.isLeast(0), q.isLeast(1), q.isLeast(2), q.isLeast(3)};
    }

    /** Promise 29: "else 0 (none: 1)" */
    private static void isLeastOfAll() {
        each("none", leasts(new BeatQueues()), 1, 1, 1, 1);
        for (int m : NO_MACHINE) {
            Check.due("no such MACHINE", new BeatQueues().isLeast(m), -1);
        }
        BeatQueues q = new BeatQueues();
        q.put(5, 0);
        each("one alone", leasts(q), 1, 1, 1, 1);
        q.put(5, 1);
        each("of like ones the first", leasts(q), 1, 1, 1, 1);
        q.put(4, 1);
        each("a LESS one", leasts(q), 1, 1, 1, 0);
        q.take();
        q.take();
        each("again", leasts(q), 1, 1, 1, 1);
        q.take();
        each("none again", leasts(q), 1, 1, 1, 1);
        // the LESS one lies in another BUCKET: it can't be
        BeatQueues r = new BeatQueues();
        r.put(300, 0);
        r.put(200, 0);
        Check.due("HEAD is in the first BUCKET", r.isLeast(3), 1);
        // a HEAD that is MARKED is an ENTRY, too
        each("a MARKED HEAD", leasts(fiveMarkedBeforeSeven()), 1, 1, 1, 1);
    }

    /** Promise 30: "HEAD of a MACHINE behind n 0 .. 40 BEATS of the PLAN TRIED" */
    private static void aheadAsFarAsThePlanGoes() {
        BeatQueues q = Check.told("put a 9;put b 8;renew a 7;take;take;take;");
        // the SHIFT ROW: 9; 8, 9; 7, 8; 8; none; none
        int[] keys = {-2, 9, 8, 7, 8, -2, -2, -2};
        for (int n = 0; n < 8; n++) {
            Check.due("behind " + n, q.ahead(n, 0, 0), keys[n]);
        }
        Check.due("40", q.ahead(40, 0, 0), -2);
        for (int m = 0; m < 4; m++) {
            for (int n : new int[] {-1, 41, Integer.MIN_VALUE, Integer.MAX_VALUE}) {
                Check.due("no such n", q.ahead(n, m, 0), -1);
            }
            for (int what : new int[] {-1, 4, Integer.MIN_VALUE, Integer.MAX_VALUE}) {
                Check.due("NONE goes ahead of -2", q.ahead(0, m, what), -1);
            }
        }
        for (int m : NO_MACHINE) {
            Check.due("no such MACHINE", q.ahead(1, m, 0), -1);
        }
        // the BUCKETS: 9 is MARKED and first of its BUCKET
        int[] marked = {9, 0, 0, 1};
        for (int what = 0; what < 4; what++) {
            Check.due("a MARKED HEAD", q.ahead(3, 3, what), marked[what]);
        }
        Check.due("without a PLAN, as it is", fiftyThirty().ahead(40, 0, 0), 30);
        BeatQueues r = Check.told("put a 5;".repeat(40));
        Check.due("the whole PLAN", r.ahead(40, 0, 2), 0);
        r.run(40);
        Check.due("none is left of it", r.ahead(40, 0, 2), 0);
        // it is the same as run()
        for (int n = 1; n <= 6; n++) {
            for (int m = 0; m < 4; m++) {
                for (int what = 0; what < 4; what++) {
                    BeatQueues s = Check.told("put a 9;put b 8;renew a 7;take;take;take;");
                    int want = s.ahead(n, m, what);
                    s.run(n);
                    Check.due("as run()", s.head(m, what), want);
                }
            }
        }
    }

    /** Promise 31: "In how many of the next n 1 .. 40 BEATS of the PLAN TRIED what is OUT .. is unlike" */
    private static void differsInBeats() {
        BeatQueues q = Check.told("put a 9;put b 8;" + "take;put c 7;".repeat(19));
        for (int one = 0; one < 4; one++) {
            for (int other = 0; other < 4; other++) {
                for (int n : new int[] {0, -1, 41, Integer.MIN_VALUE, Integer.MAX_VALUE}) {
                    Check.due("no such n", q.differs(n, one, other), -1);
                }
                Check.due("nothing is OUT of either", q.differs(2, one, other), 0);
            }
            for (int m : NO_MACHINE) {
                Check.due("no such MACHINE", q.differs(1, one, m), -1);
                Check.due("no such MACHINE", q.differs(1, m, one), -1);
                Check.due("no such MACHINES", q.differs(1, m, m), -1);
            }
            Check.due("one with itself", q.differs(40, one, one), 0);
        }
        // SHIFT ROW: 8, then each 7 as it comes; BUCKETS: 9, 8, then each 7 a TAKE later
        Check.due("the first TAKE", q.differs(3, 0, 3), 1);
        Check.due("the first two", q.differs(5, 0, 3), 2);
        Check.due("all 19 of them", q.differs(40, 0, 3), 19);
        q.run(40);
        Check.due("none is left", q.differs(40, 0, 3), 0);
        // the least n, and whatever was tried ahead of it
        BeatQueues t = Check.told("take;take;");
        t.put(9, 0);
        t.put(8, 0);
        Check.due("the next BEAT alone", t.differs(1, 0, 3), 1);
        Check.due("DRAINED", t.unlike(0, 3), 0);
        Check.due("the next BEAT alone", t.differs(1, 0, 3), 1);
        Check.due("the next two", t.differs(2, 0, 3), 2);
        t.run(2);
        Check.due("none is left", t.differs(1, 0, 3), 0);
        // like KEYS by their STAMPS
        BeatQueues r = Check.told("row 1;buckets 1 1;put a 5;put b 4;put c 5;take;take;");
        Check.due("4 and 5", r.differs(4, 0, 3), 1);
        Check.due("both nothing", r.differs(40, 0, 3), 1);
        // one of them nothing
        BeatQueues s = Check.told("row 2;levels 1;put a 5;put b 6;take;take;");
        Check.due("the HEAP has REFUSED it", s.differs(40, 0, 2), 1);
        Check.due("it goes no further than the PLAN", s.differs(4, 0, 2), 1);
        Check.due("nor than n", s.differs(3, 0, 2), 0);
    }

    // ---- 32 to 38 ----

    /** Promise 32: "The least row 1 .. 16 (all else as told) .. -2: by none; NONE: no such MACHINE" */
    private static void leastRowByThePlan() {
        for (int m = 0; m < 2; m++) {
            Check.due("no PLAN", new BeatQueues().leastRow(m), 1);
            Check.due("no more than the PLAN", Check.told("take;wait;take;").leastRow(m), 1);
            for (int n = 1; n <= 18; n++) {
                BeatQueues q = Check.told("put a 5;".repeat(n));
                Check.due("for " + n, q.leastRow(m), n <= 16 ? n : -2);
                q.run(n);
                q.put(1, 1);
                Check.due("from the beginning on, for " + n, q.leastRow(m), n <= 16 ? n : -2);
                Check.due("the row stays as told", q.count(0), 8);
            }
            Check.due("whatever row is told", Check.told("row 1;put a 1;put a 2;put a 3;").leastRow(m), 3);
            Check.due("whatever row is told", Check.told("row 16;put a 1;put a 2;put a 3;").leastRow(m), 3);
            Check.due("by one CELL, with BOTH", Check.told("both a 1;both a 2;both a 3;").leastRow(m), 1);
        }
        // what is called off is taken out of the SHIFT ROW at once, and only MARKED in the HANDING ROW
        BeatQueues q = Check.told("put a 5;renew a 6;renew a 7;");
        Check.due("SHIFT ROW", q.leastRow(0), 1);
        Check.due("HANDING ROW", q.leastRow(1), 2);
        for (int m : new int[] {2, 3, 4, -1, Integer.MIN_VALUE, Integer.MAX_VALUE}) {
            Check.due("no such MACHINE", q.leastRow(m), -1);
        }
    }

    /** Promise 32: "behind the whole PLAN and 40 BEATS of WAIT" */
    private static void leastRowWaitsForty() {
        // 17 is on its way yet when the PLAN ends, and falls off behind CELL 15
        BeatQueues q = Check.told("put a 1;".repeat(17));
        Check.due("LOST while waiting", q.leastRow(1), -2);
        BeatQueues r = Check.told("put a 1;put a 2;");
        Check.due("LOST while waiting", r.leastRow(1), 2);
        // taken in time: 2 is HANDED on by CELL 0 and comes to CELL 1 ahead of TAKE
        BeatQueues s = Check.told("put a 1;put a 2;take;take;");
        Check.due("not LOST", s.leastRow(1), 2);
        // swept while waiting: 1 goes, and 2, 3 come a CELL ahead
        BeatQueues t = Check.told("put a 1;put b 2;renew a 3;");
        Check.due("SWEPT in time", t.leastRow(1), 2);
    }

    /** Promise 33 */
    private static void leastLevelsByThePlan() {
        int[] want = {1, 1, 2, 2, 3, 3, 3, 3, 4, 4, 4, 4, 4, 4, 4, 4, -2, -2};
        for (int n = 0; n < want.length; n++) {
            BeatQueues q = Check.told("levels 1;" + "put a 5;".repeat(n));
            Check.due("for " + n, q.leastLevels(), want[n]);
            q.run(40);
            Check.due("from the beginning on, for " + n, q.leastLevels(), want[n]);
            Check.due("levels stay as told", q.count(1), 1);
        }
        Check.due("BOTH needs no more room", Check.told("both a 1;both a 2;both a 3;").leastLevels(), 1);
        Check.due("MARKED ones need theirs", Check.told("put a 1;renew a 2;").leastLevels(), 2);
        // a BEAT of WAIT behind the PLAN could not help
        Check.due("TAKE makes room at once", Check.told("put a 1;take;put a 2;").leastLevels(), 1);
    }

    /** Promise 34: "The least DEEP 1 .. 8 (BUCKETS as told)" */
    private static void leastDeepByThePlan() {
        for (int n = 0; n <= 10; n++) {
            BeatQueues q = Check.told("buckets 1 1;" + "put a 5;".repeat(n));
            int want = n <= 8 ? Math.max(n, 1) : -2;
            Check.due("for " + n, q.leastDeep(), want);
            q.run(40);
            Check.due("from the beginning on, for " + n, q.leastDeep(), want);
            Check.due("DEEP stays as told", q.count(9), 1);
        }
        String plan = "put a 0;put a 125;put a 250;put a 375;put a 500;put a 625;put a 750;put a 875;";
        int[] want = {8, 4, 3, 2, 2, 2, 2, 1};
        for (int buckets = 1; buckets <= 8; buckets++) {
            Check.due("in " + buckets, Check.told("buckets " + buckets + " 8;" + plan).leastDeep(), want[buckets - 1]);
        }
        Check.due("MARKED ones need their PLACE", Check.told("put a 1;renew a 2;").leastDeep(), 2);
        Check.due("a MARKED HEAD is SWEPT", Check.told("put a 1;cancel a;put a 2;").leastDeep(), 1);
    }

    /** Promise 35: "the one that was OUT later is LESS, and had come ahead of the BEAT in which the other one was OUT" */
    private static void swapsOfCouples() {
        for (int m : NO_MACHINE) {
            Check.due("no such MACHINE", new BeatQueues().swaps(m), -1);
        }
        BeatQueues q = new BeatQueues();
        each("none was OUT", new int[] {q.swaps(0), q.swaps(1), q.swaps(2), q.swaps(3)}, 0, 0, 0, 0);
        q.put(9, 0);
        q.take();
        q.put(8, 0);
        q.take();
        each("it came behind", new int[] {q.swaps(0), q.swaps(1), q.swaps(2), q.swaps(3)}, 0, 0, 0, 0);
        BeatQueues r = new BeatQueues();
        r.put(9, 0);
        r.both(8, 0);
        r.take();
        each("it came in that very BEAT", new int[] {r.swaps(0), r.swaps(1), r.swaps(2), r.swaps(3)}, 0, 0, 0, 0);
        BeatQueues s = new BeatQueues();
        s.put(9, 0);
        s.put(9, 1);
        s.put(8, 2);
        s.take();
        s.take();
        s.take();
        each("8 came ahead, behind both; like ones are in order",
                new int[] {s.swaps(0), s.swaps(1), s.swaps(2), s.swaps(3)}, 0, 0, 0, 2);
        // what is SWEPT was not OUT
        BeatQueues t = new BeatQueues();
        t.put(9, 0);
        t.put(8, 1);
        t.cancel(1);
        t.take();
        t.take();
        Check.due("8 is SWEPT", t.of(3, 5) * 10 + t.swaps(3), 10);
        // of those that log() keeps: 20
        BeatQueues u = Check.told("buckets 1 8;");
        u.put(9, 0);
        u.put(8, 0);
        u.put(7, 0);
        u.take();
        u.take();
        u.take();
        Check.due("three couples", u.swaps(3), 3);
        for (int i = 0; i < 17; i++) {
            u.put(500, 0);
            u.take();
        }
        Check.due("20 are kept", u.swaps(3), 3);
        u.put(500, 0);
        u.take();
        Check.due("9 isn't any more", u.swaps(3), 1);
        u.put(500, 0);
        u.take();
        Check.due("8 isn't any more", u.swaps(3), 0);
    }

    private static int[] landings(BeatQueues q, int key) {
        return new int[] {q.lands(0, key), q.lands(1, key), q.lands(2, key), q.lands(3, key)};
    }

    /** Promise 36: the least and the largest KEY, empty MACHINES, NONE */
    private static void landsInEach() {
        BeatQueues q = new BeatQueues();
        each("of an empty one", landings(q, 0), 0, 0, 100, 0);
        each("of an empty one", landings(q, 999), 0, 0, 100, 1200);
        for (int m = 0; m < 4; m++) {
            for (int key : new int[] {-1, 1000, Integer.MIN_VALUE, Integer.MAX_VALUE}) {
                Check.due("no such KEY", q.lands(m, key), -1);
            }
        }
        for (int m : NO_MACHINE) {
            Check.due("no such MACHINE", q.lands(m, 0), -1);
        }
        q.put(500, 0);
        each("LESS", landings(q, 499), 0, 0, 100, 400);
        each("a like one lands behind", landings(q, 500), 1, 101, 201, 900);
        BeatQueues r = Check.told("row 16;levels 4;buckets 8 8;");
        for (int i = 0; i < 14; i++) {
            r.put(i, 0);
        }
        for (int i = 0; i < 20; i++) {
            r.pause();
        }
        Check.due("SHIFT ROW: behind all", r.lands(0, 900), 14);
        Check.due("HANDING ROW: a CELL a BEAT", r.lands(1, 900), 1414);
        Check.due("HEAP: a level a BEAT", r.lands(2, 900), 1503);
        Check.due("BUCKETS", r.lands(3, 999), 5600);
        r.put(800, 0);
        Check.due("SHIFT ROW: the last CELL", r.lands(0, 900), 15);
        Check.due("HEAP: it would be REFUSED", r.lands(2, 0), -2);
    }

    /** Promise 36: "the CELL that KEEPS it first, times 100, and behind how many BEATS of WAIT (0: at once)" */
    private static void landsBehindWaits() {
        BeatQueues q = fiftyThirty();
        each("LESS than HEAD: at once", landings(q, 29), 0, 0, 100, 200);
        each("between", landings(q, 40), 1, 101, 201, 200);
        each("behind both", landings(q, 50), 2, 202, 402, 200);
        // it is as putting and waiting by call
        for (int key : new int[] {0, 29, 30, 40, 50, 51, 999}) {
            int row = q.lands(1, key);
            int heap = q.lands(2, key);
            BeatQueues r = fiftyThirty();
            r.put(key, 31);
            int waits = 0;
            int cell = -3;
            int node = -3;
            while (waits < 5 && (cell == -3 || node == -3)) {
                if (cell == -3 && r.place(1, 31) != -3) {
                    cell = r.place(1, 31) * 100 + waits;
                }
                if (node == -3 && r.place(2, 31) != -3) {
                    node = r.place(2, 31) * 100 + waits;
                }
                r.pause();
                waits++;
            }
            Check.due("HANDING ROW by call, KEY " + key, row, cell);
            Check.due("HEAP by call, KEY " + key, heap, node);
        }
        // the CELL that KEEPS it first, though one that is LESS sends it on later
        BeatQueues s = new BeatQueues();
        s.put(10, 0);
        s.put(40, 1);
        s.put(20, 2);
        // CELL 0 KEEPS 10, CELL 1 has 40 and gets 20: 30 finds 20 there, and 40 in CELL 2
        Check.due("behind 20", s.lands(1, 30), 202);
    }

    /** Promise 36: "-2: it would be LOST, REFUSED" */
    private static void landsWhereItIsLost() {
        BeatQueues q = Check.told("row 1;levels 1;buckets 1 1;");
        each("there is room", landings(q, 999), 0, 0, 100, 0);
        q.put(5, 0);
        each("there is none", landings(q, 5), -2, -2, -2, -2);
        each("there is none but for a LESS one", landings(q, 4), 0, 0, -2, -2);
        q.renew(6, 0);
        // SHIFT ROW: 6; the others: 5 is MARKED; the HANDING ROW HANDS 6 on
        each("behind a MARKED HEAD", landings(q, 5), 0, -2, -2, -2);
        // SWEPT in the first WAIT, but 5 was HANDED on behind the last CELL ahead of that
        Check.due("a LESS one", q.lands(1, 4), 0);
        BeatQueues r = Check.told("row 2;levels 2;buckets 2 2;");
        for (int i = 0; i < 3; i++) {
            r.put(100 * i, 0);
        }
        each("behind all", landings(r, 300), -2, -2, -2, -2);
        each("in the other BUCKET", landings(r, 500), -2, -2, -2, 200);
        each("between", landings(r, 50), 1, 101, -2, -2);
    }

    /** Promise 37: "(0 the latest; 20 are kept)" */
    private static void logOfTwenty() {
        BeatQueues q = new BeatQueues();
        for (int m = 0; m < 4; m++) {
            Check.due("none was OUT", q.log(m, 0, 0), -2);
            for (int k : new int[] {-1, Integer.MIN_VALUE}) {
                Check.due("no such k", q.log(m, k, 0), -1);
            }
            for (int what : new int[] {-1, 4, Integer.MIN_VALUE, Integer.MAX_VALUE}) {
                Check.due("NONE goes ahead of -2", q.log(m, 0, what), -1);
            }
        }
        for (int m : NO_MACHINE) {
            Check.due("no such MACHINE", q.log(m, 0, 0), -1);
        }
        for (int i = 0; i < 45; i++) {
            q.put(20 * i, i % 32);
            q.take();
            int kept = Math.min(i + 1, 20);
            for (int m = 0; m < 4; m++) {
                int last = i - kept + 1;
                int[] first = {20 * i, i % 32, 2 * i, 2 * i + 1};
                int[] twentieth = {20 * last, last % 32, 2 * last, 2 * last + 1};
                for (int what = 0; what < 4; what++) {
                    Check.due("the latest", q.log(m, 0, what), first[what]);
                    Check.due("the last one that is kept", q.log(m, kept - 1, what), twentieth[what]);
                    Check.due("not so many", q.log(m, kept, what), -2);
                }
                Check.due("not so many", q.log(m, 20, 0), -2);
                Check.due("not so many", q.log(m, Integer.MAX_VALUE, 0), -2);
            }
        }
        q.take();
        Check.due("a MISS leaves it", q.log(0, 0, 0), 880);
        Check.due("OUT in all", q.of(0, 6), 45);
    }

    /** "DRAW: the last number (at first the seed) times 1103515245, and 12345 more, without what is above 31 bits" */
    private static final class Draws {
        private BigInteger last;

        Draws(int seed) {
            last = BigInteger.valueOf(seed);
        }

        int draw(int below) {
            last = last.multiply(BigInteger.valueOf(1103515245)).add(BigInteger.valueOf(12345))
                    .mod(BigInteger.ONE.shiftLeft(31));
            return last.divide(BigInteger.valueOf(65536)).mod(BigInteger.valueOf(below)).intValue();
        }
    }

    /** "BY CHANCE: n BEATS from now on": the same BEATS by call, counted BEAT by BEAT. */
    private static void chanceIsAsByCall() {
        String[] texts = {"", "row 1;levels 1;buckets 1 1;", "row 16;levels 4;buckets 8 8;seed 99999;", "row 3;levels 2;seed 7;"};
        for (String text : texts) {
            for (int seed : new int[] {0, 1, 42, 99999, 123456789, 2147483646, 2147483647}) {
                BeatQueues q = Check.told(text);
                q.put(20, 3);
                q.put(10, 4);
                q.take();
                int[][] before = chanceCounts(q);
                int[] notLeast = new int[4];
                BeatQueues asked = Check.told(text);
                asked.put(20, 3);
                asked.put(10, 4);
                asked.take();
                Draws draws = new Draws(seed);
                for (int n = 1; n <= 60; n++) {
                    byChance(q, draws);
                    int[][] now = chanceCounts(q);
                    for (int m = 0; m < 4; m++) {
                        notLeast[m] += 1 - q.isLeast(m);
                        if (n == 1 || n == 2 || n == 17 || n >= 59) {
                            for (int what = 0; what < 3; what++) {
                                Check.due("chance(" + seed + "," + n + "," + m + "," + what + ")",
                                        asked.chance(seed, n, m, what), now[m][what] - before[m][what]);
                            }
                            Check.due("not the LEAST", asked.chance(seed, n, m, 3), notLeast[m]);
                        }
                    }
                }
            }
        }
    }

    private static void byChance(BeatQueues q, Draws draws) {
        int act = draws.draw(8);
        if (act <= 3) {
            int key = draws.draw(50);
            q.put(key, draws.draw(32));
        } else if (act <= 5) {
            q.take();
        } else if (act == 6) {
            int key = draws.draw(50);
            q.both(key, draws.draw(32));
        } else {
            q.cancel(draws.draw(32));
        }
    }

    private static int[][] chanceCounts(BeatQueues q) {
        int[][] counts = new int[4][];
        for (int m = 0; m < 4; m++) {
            counts[m] = new int[] {q.of(m, 6), q.of(m, 4), q.of(m, 2) + q.of(m, 3)};
        }
        return counts;
    }

    /** Promise 38: "n 1 .. 60 BEATS from a seed 0 .. 2147483647 on (-1: that of the TEXT)" */
    private static void chanceOfWrongNumbers() {
        BeatQueues q = Check.told("seed 99999;");
        for (int m = 0; m < 4; m++) {
            for (int seed : new int[] {-2, -3, Integer.MIN_VALUE}) {
                Check.due("no such seed", q.chance(seed, 1, m, 0), -1);
            }
            for (int n : new int[] {0, -1, 61, Integer.MIN_VALUE, Integer.MAX_VALUE}) {
                Check.due("no such n", q.chance(0, n, m, 0), -1);
            }
            for (int what : new int[] {-1, 4, Integer.MIN_VALUE, Integer.MAX_VALUE}) {
                Check.due("no such what", q.chance(0, 1, m, what), -1);
            }
            for (int what = 0; what < 4; what++) {
                Check.due("that of the TEXT", q.chance(-1, 60, m, what), q.chance(99999, 60, m, what));
                Check.due("that of a TEXT without one", fiftyThirty().chance(-1, 60, m, what),
                        fiftyThirty().chance(0, 60, m, what));
                Check.due("the largest one", q.chance(Integer.MAX_VALUE, 1, m, what) >= 0 ? 1 : 0, 1);
            }
        }
        for (int m : NO_MACHINE) {
            Check.due("no such MACHINE", q.chance(0, 1, m, 0), -1);
        }
    }

    // ---- 39 to 42 ----

    /** Promise 39: every kind of BEAT, by call and by the PLAN, the latest first */
    private static void undoOfEach() {
        BeatQueues q = Check.told("row 2;levels 2;buckets 2 2;put a 50;both b 40;renew a 30;cancel b;take;wait;");
        Check.due("none could", q.undo(), -1);
        String[] looks = new String[13];
        looks[0] = TrialsTest.look(q);
        for (int i = 1; i <= 12; i++) {
            switch (i) {
                case 2: q.put(900, 31); break;
                case 4: q.renew(10, 31); break;
                case 6: q.both(5, 1); break;
                case 8: q.cancel(1); break;
                case 10: q.take(); break;
                case 12: q.pause(); break;
                default: q.run(1); break;
            }
            looks[i] = TrialsTest.look(q);
        }
        for (int i = 11; i >= 0; i--) {
            Check.due("how many yet", q.undo(), i);
            Check.due("what can be undone", q.count(6), i);
            Check.holds("as it was, " + i, looks[i].equals(TrialsTest.look(q)));
        }
        Check.due("none could", q.undo(), -1);
        Check.holds("and it stays", looks[0].equals(TrialsTest.look(q)));
        Check.due("and goes on", q.run(40), 6);
    }

    /** "the latest first (20 at most)" */
    private static void undoTwenty() {
        BeatQueues q = Check.told("put a 7;".repeat(40));
        Check.due("40 at once", q.run(40), 40);
        Check.due("20 can be undone", q.count(6), 20);
        for (int i = 19; i >= 0; i--) {
            Check.due("how many yet", q.undo(), i);
            Check.due("how far the PLAN is", q.count(3), 20 + i);
            Check.due("BEATS", q.count(4), 20 + i);
        }
        Check.due("none could", q.undo(), -1);
        Check.due("BEATS stay", q.count(4), 20);
        for (int i = 1; i <= 21; i++) {
            q.pause();
            Check.due("what can be undone", q.count(6), Math.min(i, 20));
        }
        Check.due("21 BEATS, 20 undone", undoAll(q), 20);
        Check.due("BEATS", q.count(4), 21);
    }

    private static int undoAll(BeatQueues q) {
        int undone = 0;
        while (undone < 100 && q.undo() >= 0) {
            undone++;
        }
        return undone;
    }

    /** Promises 40, 41: "All is as in the IMAGE (it stays; nothing to undo then): how many BEATS; NONE: there is none." */
    private static void imageOfAll() {
        BeatQueues q = Check.told("row 2;levels 2;buckets 2 2;put a 50;put b 40;put c 30;renew a 20;take;cancel b;take;");
        Check.due("there is none", q.back(), -1);
        Check.due("of no BEAT", q.keep(), 0);
        Check.due("back to no BEAT", q.back(), 0);
        q.run(5);
        String then = TrialsTest.look(q);
        Check.due("how many BEATS", q.keep(), 5);
        q.run(40);
        q.both(1, 1);
        q.both(2, 2);
        Check.due("how many BEATS", q.back(), 5);
        Check.due("nothing to undo", q.count(6), 0);
        Check.holds("all is as in it", withoutUndo(then).equals(withoutUndo(TrialsTest.look(q))));
        Check.due("how far the PLAN is", q.count(3), 5);
        q.take();
        q.keep();
        Check.due("in place of the one ahead", q.back(), 6);
        q.take();
        Check.due("it stays", q.back(), 6);
        Check.due("it stays", q.back(), 6);
        // the TAPE, the FAULT are none of it
        q.feed(0x72720000, 0, 0, 0, 0);
        q.text(2);
        q.feed(0, 0, 0, 0, 0);
        q.back();
        Check.due("the TAPE", q.count(7), 20);
        Check.due("the FAULT", q.fault(0), 1);
        Check.due("a TEXT takes it away", Check.text(Check.told(""), "take;"), 1);
        q.text(0);
        Check.due("a TEXT takes it away", q.back(), -1);
        Check.due("nor does undo() find anything", q.undo(), -1);
    }

    /** What can be undone is the one thing of a look that an IMAGE does not keep. */
    private static String withoutUndo(String look) {
        String[] parts = look.split(" ");
        int each = 6;
        int first = parts.length - 16 * each;
        parts[first + 6 * each + 2] = "";
        return String.join(" ", parts);
    }

    private static void backAndUndo() {
        BeatQueues q = new BeatQueues();
        q.put(5, 0);
        q.keep();
        q.put(6, 0);
        q.put(7, 0);
        Check.due("undo leaves the IMAGE", q.undo(), 2);
        Check.due("past the BEAT of it", q.undo(), 1);
        Check.due("past the BEAT of it", q.undo(), 0);
        Check.due("it can be ahead", q.back(), 1);
        Check.due("nothing to undo then", q.undo(), -1);
        Check.due("one ENTRY", q.of(0, 0), 1);
        for (int i = 0; i < 25; i++) {
            q.put(1, 1);
        }
        Check.due("back", q.back(), 1);
        q.take();
        Check.due("one can be undone", q.count(6), 1);
        Check.due("undone", q.undo(), 0);
        Check.due("not what was ahead of back()", q.undo(), -1);
        Check.due("BEATS", q.count(4), 1);
        Check.due("one ENTRY", q.of(2, 0), 1);
        Check.due("keep() can't be undone", q.keep(), 1);
        Check.due("keep() can't be undone", q.undo(), -1);
    }

    /** Promise 42 */
    private static void counts() {
        BeatQueues q = new BeatQueues();
        int[] fresh = {8, 3, 0, 0, 0, 0, 0, 0, 4, 4};
        for (int what = 0; what < 10; what++) {
            Check.due("count(" + what + ")", q.count(what), fresh[what]);
        }
        for (int what : new int[] {-1, 10, 11, Integer.MIN_VALUE, Integer.MAX_VALUE}) {
            Check.due("another what", q.count(what), -1);
        }
        q = Check.told("row 16;levels 4;buckets 8 7;seed 3;" + "put a 1;".repeat(40));
        q.run(40);
        q.take();
        q.feed(0, 0, 0, 0, 0);
        int[] want = {16, 4, 40, 40, 41, 1, 20, 20, 8, 7};
        for (int what = 0; what < 10; what++) {
            Check.due("count(" + what + ")", q.count(what), want[what]);
        }
        q = Check.told("row 1;levels 1;buckets 1 2;");
        int[] least = {1, 1, 0, 0, 0, 0, 0, 0, 1, 2};
        for (int what = 0; what < 10; what++) {
            Check.due("count(" + what + ")", q.count(what), least[what]);
        }
    }

    /** "Nothing is changed by what is asked" */
    private static void nothingIsChangedByWhatIsAsked() {
        BeatQueues q = Check.told("row 3;levels 2;buckets 2 3;put a 50;put b 30;renew a 20;take;cancel b;take;both c 5;");
        for (int i = 0; i < 8; i++) {
            String before = TrialsTest.look(q);
            int undoable = q.count(6);
            for (int m = 0; m < 4; m++) {
                q.settle(m);
                q.drained(m, 0, 0);
                q.drains(m);
                q.turn(m, 0);
                q.apart(m);
                q.isLeast(m);
                q.ahead(40, m, 0);
                q.leastRow(m);
                q.swaps(m);
                q.lands(m, 999);
                q.chance(i, 60, m, 3);
                q.unlike(m, 3 - m);
                q.differs(40, m, 3 - m);
            }
            q.leastLevels();
            q.leastDeep();
            q.named(1);
            Check.holds("behind BEAT " + i, before.equals(TrialsTest.look(q)));
            Check.due("what can be undone", q.count(6), undoable);
            q.run(1);
        }
    }
}
