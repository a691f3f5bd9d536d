/** Promises 23 to 34, 36 and 38: what is tried, and that it changes nothing. */
public final class TrialsTest {
    public static void main(String[] args) {
        settle();
        drained();
        drainedAtMostSixty();
        drainedBehindMarked();
        unlike();
        turn();
        apart();
        isLeast();
        ahead();
        differs();
        leastRow();
        leastLevels();
        leastDeep();
        lands();
        landsAmongMarked();
        chance();
        chanceFromNowOn();
        nothingIsChanged();
        noSuchMachine();
        Check.end();
    }

    private static BeatQueues fiftyThirty() {
        BeatQueues q = new BeatQueues();
        q.put(50, 0);
        q.put(30, 1);
        return q;
    }

    private static void each(String what, int[] got, int... want) {
        for (int m = 0; m < 4; m++) {
            Check.due(what + " " + m, got[m], want[m]);
        }
    }

    private static int[] settles(BeatQueues q) {
        return new int[] {q.settle(0), q.settle(1), q.settle(2), q.settle(3)};
    }

    private static void settle() {
        BeatQueues q = fiftyThirty();
        each("one moves", settles(q), 0, 1, 1, 0);
        q.put(40, 2);
        each("two steps", settles(q), 0, 2, 2, 0);
        BeatQueues r = new BeatQueues();
        r.put(5, 0);
        r.renew(7, 0);
        // the heap's hole takes a beat more
        each("a marked head", settles(r), 0, 1, 2, 1);
        r.cancel(0);
        each("another marked head", settles(r), 0, 1, 1, 1);
        BeatQueues s = Check.told("buckets 1 8;");
        for (int i = 0; i < 8; i++) {
            s.put(i, i);
        }
        for (int i = 7; i > 0; i--) {
            s.cancel(i);
        }
        Check.due("head isn't marked", s.settle(3), 0);
        s.renew(0, 0);
        Check.due("all eight are marked", s.settle(3), 8);
    }

    private static void drained() {
        BeatQueues q = fiftyThirty();
        int[][] want = {{30, 1, 1, 0, 50, 0, 0, 1}, {30, 1, 1, 0, 50, 0, 0, 1}, {30, 1, 1, 0, 50, 0, 0, 1},
            {50, 0, 0, 0, 30, 1, 1, 1}};
        for (int m = 0; m < 4; m++) {
            for (int k = 0; k < 2; k++) {
                for (int what = 0; what < 4; what++) {
                    Check.due("drained(" + m + "," + k + "," + what + ")", q.drained(m, k, what), want[m][4 * k + what]);
                }
            }
            Check.due("not so many", q.drained(m, 2, 0), -2);
            Check.due("not so many", q.drained(m, Integer.MAX_VALUE, 3), -2);
            Check.due("no such k", q.drained(m, -1, 0), -1);
            Check.due("no such what", q.drained(m, 0, 4), -1);
            Check.due("no such what goes first", q.drained(m, 2, -1), -1);
            Check.due("drains " + m, q.drains(m), 2);
        }
    }

    private static void drainedAtMostSixty() {
        BeatQueues q = Check.told("buckets 8 8;row 16;levels 4;");
        for (int i = 0; i < 64; i++) {
            q.put(i / 8 * 125, 0);
        }
        Check.due("buckets have", q.of(3, 0), 64);
        Check.due("60 at most", q.drains(3), 60);
        Check.due("the last one", q.drained(3, 59, 2), 59);
        Check.due("in its beat", q.drained(3, 59, 3), 59);
        Check.due("no more", q.drained(3, 60, 2), -2);
        Check.due("shift row", q.drains(0), 16);
        Check.due("handing row: 16 kept, and what is handed on but by the last cell", q.drains(1), 16 + 15);
        Check.due("heap", q.drains(2), 15);
    }

    private static void drainedBehindMarked() {
        BeatQueues q = new BeatQueues();
        q.put(5, 0);
        q.renew(7, 0);
        for (int m = 0; m < 4; m++) {
            Check.due("one " + m, q.drains(m), 1);
            Check.due("which " + m, q.drained(m, 0, 0), 7);
            Check.due("when " + m, q.drained(m, 0, 3), m == 0 ? 0 : 1);
        }
    }

    private static void unlike() {
        BeatQueues q = fiftyThirty();
        Check.due("alike", q.unlike(0, 1), -2);
        Check.due("alike", q.unlike(1, 2), -2);
        Check.due("unlike", q.unlike(0, 3), 0);
        Check.due("unlike", q.unlike(3, 2), 0);
        Check.due("the same one", q.unlike(3, 3), -2);
        BeatQueues r = Check.told("buckets 1 1;row 2;");
        r.put(1, 0);
        r.put(2, 0);
        r.put(3, 0);
        Check.due("one gives more", r.unlike(0, 3), 1);
        Check.due("the other one gives more", r.unlike(3, 0), 1);
        Check.due("one gives more", r.unlike(0, 2), 2);
        // the beats in which they come don't matter
        BeatQueues s = new BeatQueues();
        s.put(5, 0);
        s.renew(7, 0);
        Check.due("later, but the same", s.unlike(0, 3), -2);
        for (int m = 0; m < 4; m++) {
            Check.due("no such machine", q.unlike(m, 4), -1);
            Check.due("no such machine", q.unlike(-1, m), -1);
        }
        Check.due("no such machines", q.unlike(9, 9), -1);
    }

    private static void turn() {
        BeatQueues q = fiftyThirty();
        each("turn of 0", new int[] {q.turn(0, 0), q.turn(1, 0), q.turn(2, 0), q.turn(3, 0)}, 1, 1, 1, 0);
        each("turn of 1", new int[] {q.turn(0, 1), q.turn(1, 1), q.turn(2, 1), q.turn(3, 1)}, 0, 0, 0, 1);
        Check.due("in none", q.turn(0, 2), -2);
        Check.due("no such name", q.turn(0, 32), -1);
        Check.due("no such name", q.turn(0, -1), -1);
        BeatQueues r = new BeatQueues();
        r.put(5, 0);
        r.renew(7, 0);
        each("the marked one aside", new int[] {r.turn(0, 0), r.turn(1, 0), r.turn(2, 0), r.turn(3, 0)}, 0, 1, 1, 1);
        BeatQueues s = Check.told("buckets 8 8;");
        for (int i = 0; i < 61; i++) {
            s.put(i / 8 * 125, i == 60 ? 1 : 0);
        }
        Check.due("in none of 60", s.turn(3, 1), -2);
        s.take();
        Check.due("in the last of 60", s.turn(3, 1), 59);
    }

    private static void apart() {
        BeatQueues q = Check.told("levels 2;");
        q.put(1, 0);
        q.put(5, 1);
        q.put(3, 2);
        q.put(3, 3);
        q.pause();
        each("apart", new int[] {q.apart(0), q.apart(1), q.apart(2), q.apart(3)}, 0, 0, 1, 2);
        // what is handed on and what is with tokens doesn't lie anywhere
        BeatQueues r = fiftyThirty();
        each("apart", new int[] {r.apart(0), r.apart(1), r.apart(2), r.apart(3)}, 0, 0, 0, 1);
        r.put(750, 2);
        r.put(40, 3);
        Check.due("cell 0 hands on one that is less than what cell 1 keeps", r.kept(1, 1, 0) - r.handed(0, 0), 50 - 40);
        Check.due("apart all the same", r.apart(1), 0);
        BeatQueues s = new BeatQueues();
        s.put(40, 0);
        s.put(30, 0);
        s.put(20, 0);
        s.put(10, 0);
        s.put(900, 0);
        s.put(800, 0);
        Check.due("all the other way round", s.apart(3), 6 + 1);
        s.renew(5, 1);
        s.cancel(0);
        Check.due("the first is swept", s.apart(3), 3 + 1);
        s.renew(35, 0);
        Check.due("marked ones count", s.apart(3), 3 + 1);
    }

    private static void isLeast() {
        BeatQueues q = new BeatQueues();
        each("none", new int[] {q.isLeast(0), q.isLeast(1), q.isLeast(2), q.isLeast(3)}, 1, 1, 1, 1);
        q = fiftyThirty();
        each("in order", new int[] {q.isLeast(0), q.isLeast(1), q.isLeast(2), q.isLeast(3)}, 1, 1, 1, 0);
        q.take();
        Check.due("again", q.isLeast(3), 1);
        BeatQueues r = new BeatQueues();
        r.put(7, 0);
        r.put(7, 1);
        Check.due("of like keys the first", r.isLeast(3), 1);
        // one that is marked is an entry too
        BeatQueues s = fiftyThirty();
        s.cancel(1);
        Check.due("a marked one is less", s.isLeast(3), 0);
    }

    private static void ahead() {
        BeatQueues q = Check.told("put a 50;put b 30;take;take;");
        int[][] keys = {{-2, -2}, {50, 50}, {30, 50}, {50, 30}, {-2, -2}, {-2, -2}};
        for (int n = 0; n < 6; n++) {
            Check.due("ahead " + n + " of 0", q.ahead(n, 0, 0), keys[n][0]);
            Check.due("ahead " + n + " of 3", q.ahead(n, 3, 0), keys[n][1]);
        }
        Check.due("as far as it goes", q.ahead(40, 1, 0), -2);
        Check.due("name", q.ahead(2, 2, 1), 1);
        Check.due("stamp", q.ahead(2, 2, 2), 1);
        Check.due("marked", q.ahead(2, 2, 3), 0);
        Check.due("no such n", q.ahead(-1, 0, 0), -1);
        Check.due("no such n", q.ahead(41, 0, 0), -1);
        Check.due("no such what", q.ahead(1, 0, 4), -1);
        Check.due("no such what", q.ahead(1, 0, -1), -1);
        q.run(1);
        q.put(10, 9);
        Check.due("from now on", q.ahead(1, 0, 0), 10);
        Check.due("its next ones", q.ahead(2, 0, 0), 30);
        Check.due("stamps from now on", q.ahead(2, 0, 2), 2);
    }

    private static void differs() {
        BeatQueues q = Check.told("put a 50;put b 30;take;take;");
        int[] want = {0, 0, 1, 2, 2};
        for (int n = 1; n <= 5; n++) {
            Check.due("differs " + n, q.differs(n, 0, 3), want[n - 1]);
            Check.due("the other way round " + n, q.differs(n, 3, 0), want[n - 1]);
            Check.due("alike " + n, q.differs(n, 1, 2), 0);
            Check.due("the same one " + n, q.differs(n, 3, 3), 0);
        }
        Check.due("no such n", q.differs(0, 0, 3), -1);
        Check.due("no such n", q.differs(41, 0, 3), -1);
        Check.due("no such machine", q.differs(1, 0, 4), -1);
        Check.due("no such machine", q.differs(1, -1, 3), -1);
        q.run(3);
        Check.due("from now on", q.differs(40, 0, 3), 1);
        // one of them nothing
        BeatQueues r = Check.told("put a 5;renew a 7;take;take;");
        Check.due("one of them nothing", r.differs(40, 0, 3), 2);
        Check.due("both nothing alike", r.differs(40, 1, 3), 0);
    }

    private static void leastRow() {
        BeatQueues q = Check.told("put a 1;put a 2;put a 3;");
        Check.due("three", q.leastRow(0), 3);
        Check.due("three", q.leastRow(1), 3);
        q = Check.told("put a 1;put a 2;take;");
        Check.due("two", q.leastRow(0), 2);
        Check.due("two", q.leastRow(1), 2);
        // what is handed on in the end is lost while waiting
        q = Check.told("put a 1;put a 2;");
        Check.due("lost behind the plan", q.leastRow(1), 2);
        q = Check.told("put b 5;put a 3;take;put c 9;take;take;put d 1;");
        Check.due("two", q.leastRow(0), 2);
        q = Check.told("put a 1;".repeat(16));
        Check.due("sixteen", q.leastRow(0), 16);
        Check.due("sixteen", q.leastRow(1), 16);
        q = Check.told("put a 1;".repeat(17));
        Check.due("by none", q.leastRow(0), -2);
        Check.due("by none", q.leastRow(1), -2);
        q.run(3);
        Check.due("from the beginning on", q.leastRow(0), -2);
        Check.due("no such machine", q.leastRow(2), -1);
        Check.due("no such machine", q.leastRow(3), -1);
        Check.due("no such machine", q.leastRow(-1), -1);
        Check.due("what is by call doesn't count", callsAlone().leastRow(0), 1);
    }

    private static BeatQueues callsAlone() {
        BeatQueues q = new BeatQueues();
        q.put(1, 0);
        q.put(2, 0);
        return q;
    }

    private static void leastLevels() {
        int[] puts = {0, 1, 2, 3, 4, 7, 8, 15, 16};
        int[] want = {1, 1, 2, 2, 3, 3, 4, 4, -2};
        for (int i = 0; i < puts.length; i++) {
            BeatQueues q = Check.told("levels 4;" + "put a 1;".repeat(puts[i]));
            Check.due("levels for " + puts[i], q.leastLevels(), want[i]);
            q.run(2);
            Check.due("from the beginning on " + puts[i], q.leastLevels(), want[i]);
        }
        Check.due("what is taken makes room", Check.told("put a 1;take;put a 1;both a 2;").leastLevels(), 1);
        Check.due("what is by call doesn't count", callsAlone().leastLevels(), 1);
    }

    private static void leastDeep() {
        for (int puts = 0; puts <= 9; puts++) {
            BeatQueues q = Check.told("put a 1;".repeat(puts));
            Check.due("deep for " + puts, q.leastDeep(), puts == 9 ? -2 : Math.max(1, puts));
        }
        Check.due("in two buckets", Check.told("put a 0;put a 999;").leastDeep(), 1);
        Check.due("in one bucket", Check.told("buckets 1 8;put a 0;put a 999;").leastDeep(), 2);
        Check.due("what is by call doesn't count", callsAlone().leastDeep(), 1);
    }

    private static void lands() {
        BeatQueues q = fiftyThirty();
        int[][] want = {{5, 0, 0, 100, 200}, {30, 1, 101, 201, 200}, {40, 1, 101, 201, 200}, {50, 2, 202, 402, 200},
            {60, 2, 202, 402, 200}, {260, 2, 202, 402, 400}};
        for (int[] w : want) {
            for (int m = 0; m < 4; m++) {
                Check.due("lands(" + m + "," + w[0] + ")", q.lands(m, w[0]), w[1 + m]);
            }
        }
        Check.due("no such key", q.lands(0, 1000), -1);
        Check.due("no such key", q.lands(0, -1), -1);
        BeatQueues full = Check.told("row 1; levels 1; buckets 1 1;");
        full.put(5, 0);
        each("no room", new int[] {full.lands(0, 9), full.lands(1, 9), full.lands(2, 9), full.lands(3, 9)},
                -2, -2, -2, -2);
        each("no room but for the less", new int[] {full.lands(0, 1), full.lands(1, 1), full.lands(2, 1),
            full.lands(3, 1)}, 0, 0, -2, -2);
    }

    private static void landsAmongMarked() {
        BeatQueues q = new BeatQueues();
        q.put(5, 0);
        q.put(6, 0);
        q.put(8, 1);
        q.pause();
        q.pause();
        q.renew(7, 0);
        Check.due("shift row", q.lands(0, 9), 3);
        Check.due("buckets: full with 5, 6, 8, 7", q.lands(3, 9), -2);
        Check.due("buckets: another one", q.lands(3, 250), 400);
        // in the first wait 5 is swept, which brings 9 a cell back; behind it, it comes past 7 and 8
        Check.due("handing row", q.lands(1, 9), 304);
        // node 2 and those below it are full, so it goes to node 3
        Check.due("heap", q.lands(2, 9), 301);
    }

    private static void chance() {
        BeatQueues q = Check.told("seed 99999;row 4;buckets 8 8;");
        int[] shift = {23, 2, 10};
        int[] buckets = {23, 2, 6, 42};
        for (int what = 0; what < 3; what++) {
            Check.due("shift row, " + what, q.chance(99999, 60, 0, what), shift[what]);
            Check.due("by the text's seed, " + what, q.chance(-1, 60, 0, what), shift[what]);
        }
        Check.due("shift row is in order", q.chance(-1, 60, 0, 3), 0);
        for (int what = 0; what < 4; what++) {
            Check.due("buckets, " + what, q.chance(-1, 60, 3, what), buckets[what]);
        }
        BeatQueues r = new BeatQueues();
        int[] most = {21, 3, 10, 32};
        int[] zero = {22, 4, 11, 28};
        int[] thirty = {8, 0, 7, 14};
        for (int what = 0; what < 4; what++) {
            Check.due("buckets, " + what, r.chance(2147483647, 60, 3, what), most[what]);
            Check.due("buckets without a seed told, " + what, r.chance(-1, 60, 3, what), zero[what]);
            Check.due("buckets, 30 beats, " + what, r.chance(42, 30, 3, what), thirty[what]);
            Check.due("one beat, " + what, r.chance(42, 1, 2, what), 0);
        }
        Check.due("refused count too", Check.told("levels 1;").chance(0, 60, 2, 2) > 10 ? 1 : 0, 1);
        Check.due("no such seed", r.chance(-2, 1, 0, 0), -1);
        Check.due("no such seed", r.chance(Integer.MIN_VALUE, 1, 0, 0), -1);
        Check.due("no such n", r.chance(1, 0, 0, 0), -1);
        Check.due("no such n", r.chance(1, 61, 0, 0), -1);
        Check.due("no such what", r.chance(1, 1, 0, 4), -1);
        Check.due("no such what", r.chance(1, 1, 0, -1), -1);
    }

    private static void chanceFromNowOn() {
        // seed 0: the first draw is 0, a put
        BeatQueues q = Check.told("row 1; levels 1; buckets 1 1;");
        q.put(1, 0);
        q.take();
        q.take();
        q.put(1, 0);
        Check.due("shift row: what was counted before doesn't count", q.chance(0, 1, 0, 0), 0);
        Check.due("shift row: lost", q.chance(0, 1, 0, 2), 1);
        Check.due("handing row: not lost yet", q.chance(0, 1, 1, 2), 0);
        Check.due("heap: refused", q.chance(0, 1, 2, 2), 1);
        Check.due("buckets: lost", q.chance(0, 1, 3, 2), 1);
        for (int m = 0; m < 4; m++) {
            Check.due("no miss " + m, q.chance(0, 1, m, 1), 0);
        }
    }

    private static void nothingIsChanged() {
        BeatQueues q = Check.told("row 3;levels 2;buckets 2 2;put a 50;put b 30;renew a 20;take;cancel b;take;");
        q.run(3);
        String before = look(q);
        for (int m = 0; m < 4; m++) {
            q.settle(m);
            q.drained(m, 1, 0);
            q.drains(m);
            q.turn(m, 1);
            q.ahead(40, m, 0);
            q.leastRow(m);
            q.lands(m, 10);
            q.chance(77, 60, m, 0);
            for (int o = 0; o < 4; o++) {
                q.unlike(m, o);
                q.differs(40, m, o);
            }
        }
        q.leastLevels();
        q.leastDeep();
        Check.holds("nothing is changed by what is asked", before.equals(look(q)));
    }

    static String look(BeatQueues q) {
        StringBuilder s = new StringBuilder();
        for (int m = 0; m < 4; m++) {
            for (int what = 0; what < 8; what++) {
                s.append(q.of(m, what)).append(' ');
            }
            for (int i = 0; i < 16; i++) {
                for (int what = 0; what < 4; what++) {
                    s.append(q.kept(m, i, what)).append(' ').append(q.log(m, i, what)).append(' ');
                }
            }
            s.append(q.waited(m, 0)).append(' ').append(q.waited(m, 1)).append(' ').append(Check.out(q, m, 2)).append(' ');
        }
        for (int i = 0; i < 16; i++) {
            s.append(q.handed(i, 0)).append(' ').append(q.free(i)).append(' ').append(q.count(i)).append(' ');
            s.append(q.token(i, 0)).append(' ').append(q.token(i, 1)).append(' ').append(q.token(i, 2)).append(' ');
        }
        return s.toString();
    }

    private static void noSuchMachine() {
        BeatQueues q = fiftyThirty();
        for (int m : new int[] {-1, 4, Integer.MIN_VALUE, Integer.MAX_VALUE}) {
            Check.due("settle", q.settle(m), -1);
            Check.due("drained", q.drained(m, 0, 0), -1);
            Check.due("drains", q.drains(m), -1);
            Check.due("unlike", q.unlike(m, 0), -1);
            Check.due("turn", q.turn(m, 0), -1);
            Check.due("apart", q.apart(m), -1);
            Check.due("isLeast", q.isLeast(m), -1);
            Check.due("ahead", q.ahead(0, m, 0), -1);
            Check.due("differs", q.differs(1, 0, m), -1);
            Check.due("leastRow", q.leastRow(m), -1);
            Check.due("lands", q.lands(m, 0), -1);
            Check.due("chance", q.chance(0, 1, m, 0), -1);
        }
    }
}
