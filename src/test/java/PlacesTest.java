/** Promises 13 to 22: what is where, what came out, what was counted. */
public final class PlacesTest {
    public static void main(String[] args) {
        out();
        head();
        kept();
        keptEdges();
        handed();
        token();
        tokenEdges();
        free();
        of();
        settled();
        holds();
        place();
        waited();
        Check.end();
    }

    private static void out() {
        BeatQueues q = new BeatQueues();
        Check.due("no beat was", Check.out(q, 0, 0), -2);
        q.put(50, 3);
        q.put(30, 4);
        Check.due("nothing is out", Check.out(q, 2, 2), -2);
        q.take();
        int[][] want = {{30, 4, 1}, {30, 4, 1}, {30, 4, 1}, {50, 3, 0}};
        for (int m = 0; m < 4; m++) {
            for (int what = 0; what < 3; what++) {
                Check.due("out(" + m + "," + what + ")", Check.out(q, m, what), want[m][what]);
            }
            Check.due("no such what", Check.out(q, m, 3), 1002);
            Check.due("no such what", Check.out(q, m, -1), 1002);
        }
        Check.due("no such machine", Check.out(q, 4, 0), 1001);
        Check.due("no such machine", Check.out(q, -1, 0), 1001);
        Check.due("no such machine goes first", Check.out(q, 4, 9), 1001);
        Check.due("no such machine goes first", Check.out(q, Integer.MIN_VALUE, -1), 1001);
        q.put(1, 1);
        Check.due("of the latest beat alone", Check.out(q, 0, 0), -2);
    }

    private static void head() {
        BeatQueues q = new BeatQueues();
        Check.due("none", q.head(0, 3), -2);
        q.put(50, 3);
        q.put(30, 4);
        int[][] want = {{30, 4, 1, 0}, {30, 4, 1, 0}, {30, 4, 1, 0}, {50, 3, 0, 0}};
        for (int m = 0; m < 4; m++) {
            for (int what = 0; what < 4; what++) {
                Check.due("head(" + m + "," + what + ")", q.head(m, what), want[m][what]);
            }
            Check.due("no such what", q.head(m, 4), -1);
            Check.due("no such what", q.head(m, -1), -1);
        }
        Check.due("no such machine", q.head(4, 0), -1);
        Check.due("no such machine", q.head(-1, 0), -1);
        q.renew(20, 3);
        Check.due("head that is marked", q.head(3, 3), 1);
        // the head of the buckets is in the first bucket that has one
        BeatQueues r = new BeatQueues();
        r.put(999, 0);
        Check.due("the last bucket", r.head(3, 0), 999);
        r.put(500, 1);
        Check.due("one ahead of it", r.head(3, 0), 500);
        r.put(499, 2);
        Check.due("another one ahead of it", r.head(3, 0), 499);
    }

    private static void kept() {
        BeatQueues q = new BeatQueues();
        q.put(50, 3);
        q.put(30, 4);
        q.renew(260, 3);
        int[][] want = {{0, 0, 30, 4, 1, 0}, {0, 1, 260, 3, 2, 0}, {0, 2, -2, -2, -2, -2}, {1, 0, 30, 4, 1, 0},
            {1, 1, 50, 3, 0, 1}, {1, 2, -2, -2, -2, -2}, {2, 1, 30, 4, 1, 0}, {2, 2, 50, 3, 0, 1},
            {2, 3, -2, -2, -2, -2}, {3, 0, 50, 3, 0, 1}, {3, 1, 30, 4, 1, 0}, {3, 4, 260, 3, 2, 0}};
        for (int[] w : want) {
            for (int what = 0; what < 4; what++) {
                Check.due("kept(" + w[0] + "," + w[1] + "," + what + ")", q.kept(w[0], w[1], what), w[2 + what]);
            }
        }
    }

    private static void keptEdges() {
        BeatQueues q = Check.told("row 5; levels 4; buckets 3 7;");
        int[] first = {0, 0, 1, 0};
        int[] last = {4, 4, 15, 20};
        for (int m = 0; m < 4; m++) {
            Check.due("first of " + m, q.kept(m, first[m], 0), -2);
            Check.due("last of " + m, q.kept(m, last[m], 0), -2);
            Check.due("ahead of " + m, q.kept(m, first[m] - 1, 0), -1);
            Check.due("behind " + m, q.kept(m, last[m] + 1, 0), -1);
            Check.due("no such what", q.kept(m, first[m], 4), -1);
            Check.due("no such what", q.kept(m, first[m], -1), -1);
            Check.due("far off", q.kept(m, Integer.MAX_VALUE, 0), -1);
            Check.due("far off", q.kept(m, Integer.MIN_VALUE, 0), -1);
        }
        Check.due("no such machine", q.kept(4, 1, 0), -1);
        Check.due("no such machine", q.kept(-1, 1, 0), -1);
        // KEY times BUCKETS by 1000, downwards; DEEP places each
        int[][] places = {{0, 0}, {333, 1}, {334, 7}, {666, 8}, {667, 14}, {999, 15}};
        for (int[] p : places) {
            q.put(p[0], 0);
            Check.due("place of key " + p[0], q.kept(3, p[1], 0), p[0]);
        }
    }

    private static void handed() {
        BeatQueues q = Check.told("row 2;");
        q.put(50, 3);
        q.put(30, 4);
        int[] want = {50, 3, 0, 0};
        for (int what = 0; what < 4; what++) {
            Check.due("handed(0," + what + ")", q.handed(0, what), want[what]);
            Check.due("handed(1," + what + ")", q.handed(1, what), -2);
            Check.due("handed(2," + what + ")", q.handed(2, what), -1);
        }
        Check.due("no such what", q.handed(0, 4), -1);
        Check.due("no such what", q.handed(0, -1), -1);
        Check.due("no such cell", q.handed(-1, 0), -1);
        q.put(20, 3);
        q.cancel(3);
        Check.due("what is handed on is marked", q.handed(1, 3), 1);
    }

    private static void token() {
        BeatQueues q = new BeatQueues();
        q.put(50, 3);
        q.put(30, 4);
        int[] comes = {2, 0, 50, 3, 0};
        for (int what = 0; what < 5; what++) {
            Check.due("token(1," + what + ") comes", q.token(1, what), comes[what]);
            Check.due("token(2," + what + ")", q.token(2, what), -2);
        }
        q.take();
        int[] hole = {2, 1, -2, -2, -2};
        for (int what = 0; what < 5; what++) {
            Check.due("token(1," + what + ") hole", q.token(1, what), hole[what]);
        }
        q.put(60, 5);
        q.both(70, 6);
        int[] changes = {2, 2, 70, 6, 4};
        for (int what = 0; what < 5; what++) {
            Check.due("token(1," + what + ") changes", q.token(1, what), changes[what]);
        }
        Check.due("no such what", q.token(1, 5), -1);
        Check.due("no such what", q.token(1, -1), -1);
        Check.due("no such what goes first", q.token(2, 5), -1);
    }

    private static void tokenEdges() {
        for (int levels = 1; levels <= 4; levels++) {
            BeatQueues q = Check.told("levels " + levels + ";");
            for (int level = -1; level <= 5; level++) {
                boolean isOne = level >= 1 && level < levels;
                Check.due("token(" + level + ") of " + levels, q.token(level, 0), isOne ? -2 : -1);
            }
        }
        // a hole in the last level is a token for a beat
        BeatQueues q = Check.told("levels 2;");
        q.put(1, 0);
        q.put(2, 1);
        q.take();
        Check.due("a hole", q.token(1, 1), 1);
        q.pause();
        Check.due("no more", q.token(1, 1), -2);
    }

    private static void free() {
        BeatQueues q = Check.told("levels 2;");
        Check.due("free(1)", q.free(1), 3);
        Check.due("free(2)", q.free(2), 1);
        Check.due("free(3)", q.free(3), 1);
        Check.due("free(0)", q.free(0), -1);
        Check.due("free(4)", q.free(4), -1);
        Check.due("free(-1)", q.free(-1), -1);
        Check.due("free(most)", q.free(Integer.MAX_VALUE), -1);
        q.put(1, 0);
        Check.due("one is there", q.free(1), 2);
        q.put(2, 0);
        Check.due("one is on its way", q.free(1), 1);
        Check.due("one is on its way", q.free(2), 0);
        q.put(3, 0);
        Check.due("all is taken", q.free(1), 0);
        Check.due("all is taken", q.free(3), 0);
        q.take();
        Check.due("a hole is free", q.free(1), 1);
        Check.due("of node 2", q.free(2), 1);
        Check.due("of node 3", q.free(3), 0);
        q.both(9, 1);
        Check.due("both changes nothing", q.free(1), 1);
        Check.due("what changes is taken", q.free(2) + q.free(3), 1);
    }

    private static void of() {
        BeatQueues q = Check.told("row 2; levels 1; buckets 1 2;");
        q.put(50, 0);
        q.put(30, 1);
        q.put(20, 2);
        q.cancel(0);
        q.take();
        q.take();
        q.take();
        // entries, marked, lost, refused, misses, swept, out, settled
        int[][] want = {
            {0, 0, 1, 0, 1, 0, 2, 1},
            {0, 0, 1, 0, 1, 0, 2, 1},
            {0, 0, 0, 2, 3, 1, 0, 1},
            {0, 0, 1, 0, 2, 1, 1, 1},
        };
        for (int m = 0; m < 4; m++) {
            for (int what = 0; what < 8; what++) {
                Check.due("of(" + m + "," + what + ")", q.of(m, what), want[m][what]);
            }
            Check.due("no such what", q.of(m, 8), -1);
            Check.due("no such what", q.of(m, -1), -1);
        }
        Check.due("no such machine", q.of(4, 0), -1);
        Check.due("no such machine", q.of(-1, 0), -1);
        BeatQueues r = new BeatQueues();
        r.put(50, 0);
        r.put(30, 1);
        r.renew(40, 0);
        Check.due("shift row has", r.of(0, 0), 2);
        Check.due("on their way, marked, too", r.of(1, 0), 3);
        Check.due("on their way, marked, too", r.of(2, 0), 3);
        Check.due("marked, too", r.of(3, 0), 3);
        Check.due("marked", r.of(0, 1), 0);
        Check.due("marked", r.of(1, 1), 1);
        Check.due("marked", r.of(2, 1), 1);
        Check.due("marked", r.of(3, 1), 1);
    }

    private static void settled(BeatQueues q, int shift, int handing, int heap, int buckets) {
        int[] want = {shift, handing, heap, buckets};
        for (int m = 0; m < 4; m++) {
            Check.due("settled " + m, q.of(m, 7), want[m]);
        }
    }

    private static void settled() {
        BeatQueues q = new BeatQueues();
        q.put(50, 0);
        settled(q, 1, 1, 1, 1);
        q.put(30, 1);
        settled(q, 1, 0, 0, 1);
        q.pause();
        settled(q, 1, 1, 1, 1);
        q.take();
        settled(q, 1, 1, 0, 1);
        q.pause();
        settled(q, 1, 1, 1, 1);
        q.renew(20, 9);
        settled(q, 1, 1, 1, 1);
        // a head that is marked is not settled, though nothing moves
        BeatQueues r = Check.told("levels 1; buckets 1 1;");
        r.put(50, 0);
        r.renew(60, 0);
        settled(r, 1, 0, 0, 0);
        r.renew(70, 0);
        settled(r, 1, 0, 0, 0);
        r.pause();
        settled(r, 1, 0, 1, 1);
    }

    private static void holds() {
        BeatQueues q = new BeatQueues();
        q.put(50, 0);
        q.put(30, 0);
        q.put(40, 31);
        for (int m = 0; m < 4; m++) {
            Check.due("two " + m, q.holds(m, 0), 2);
            Check.due("one " + m, q.holds(m, 31), 1);
            Check.due("none " + m, q.holds(m, 1), 0);
            Check.due("no such name", q.holds(m, 32), -1);
            Check.due("no such name", q.holds(m, -1), -1);
        }
        q.cancel(0);
        for (int m = 0; m < 4; m++) {
            Check.due("one of them is called off " + m, q.holds(m, 0), 1);
        }
        Check.due("no such machine", q.holds(4, 0), -1);
        Check.due("no such machine", q.holds(-1, 0), -1);
    }

    private static void place() {
        BeatQueues q = new BeatQueues();
        q.put(300, 0);
        q.put(200, 1);
        q.put(100, 0);
        // 200 is on its way in the handing row and in the heap, 300 has come to its place
        int[] zero = {2, 1, 2, 4};
        int[] one = {1, -3, -3, 0};
        for (int m = 0; m < 4; m++) {
            Check.due("place(" + m + ",0)", q.place(m, 0), zero[m]);
            Check.due("place(" + m + ",1)", q.place(m, 1), one[m]);
            Check.due("none", q.place(m, 2), -2);
            Check.due("no such name", q.place(m, 32), -1);
            Check.due("no such name", q.place(m, -1), -1);
        }
        Check.due("no such machine", q.place(4, 0), -1);
        Check.due("no such machine", q.place(-1, 0), -1);
        q.cancel(0);
        int[] other = {0, 0, 1, 1};
        for (int m = 0; m < 4; m++) {
            Check.due("the other one " + m, q.place(m, 0), other[m]);
        }
    }

    private static void waited() {
        BeatQueues q = new BeatQueues();
        q.put(50, 0);
        q.put(30, 1);
        q.take();
        q.pause();
        q.take();
        q.take();
        // 30 came in beat 1, 50 in beat 0; out in beats 2 and 4
        for (int m = 0; m < 3; m++) {
            Check.due("in sum " + m, q.waited(m, 0), 1 + 4);
            Check.due("the most " + m, q.waited(m, 1), 4);
        }
        Check.due("in sum 3", q.waited(3, 0), 2 + 3);
        Check.due("the most 3", q.waited(3, 1), 3);
        Check.due("no such what", q.waited(0, 2), -1);
        Check.due("no such what", q.waited(0, -1), -1);
        Check.due("no such machine", q.waited(4, 0), -1);
        Check.due("no such machine", q.waited(-1, 0), -1);
        BeatQueues r = new BeatQueues();
        r.put(1, 0);
        r.both(2, 1);
        r.both(3, 2);
        Check.due("a beat each", r.waited(1, 0), 2);
        Check.due("at most", r.waited(1, 1), 1);
        r.cancel(2);
        r.take();
        Check.due("what is swept doesn't count", r.waited(1, 0), 2);
    }
}
