/** Promises 6 to 12: what an act does in each of the four, and what the calls answer. */
public final class BeatsTest {
    public static void main(String[] args) {
        answers();
        most();
        put();
        ties();
        fallingOff();
        take();
        takeFromTheRight();
        both();
        bothInAShortRow();
        bothWithoutHead();
        pauseMovesOn();
        pauseSweeps();
        cancel();
        cancelOfNone();
        cancelSweeps();
        takeSweeps();
        bothSweeps();
        renew();
        renewOfNone();
        renewWithoutRoom();
        run();
        Check.end();
    }

    private static void answers() {
        BeatQueues q = new BeatQueues();
        Check.due("put", q.put(0, 0), 1);
        Check.due("put", q.put(999, 31), 2);
        Check.due("take", q.take(), 3);
        Check.due("both", q.both(999, 31), 4);
        Check.due("pause", q.pause(), 5);
        Check.due("cancel", q.cancel(31), 6);
        Check.due("renew", q.renew(0, 0), 7);
        int[][] wrong = {{-1, 0}, {1000, 0}, {0, -1}, {0, 32}, {Integer.MIN_VALUE, 0}, {0, Integer.MAX_VALUE}};
        for (int[] w : wrong) {
            Check.due("put of no such", q.put(w[0], w[1]), -1);
            Check.due("both of no such", q.both(w[0], w[1]), -1);
            Check.due("renew of no such", q.renew(w[0], w[1]), -1);
        }
        Check.due("cancel(-1)", q.cancel(-1), -1);
        Check.due("cancel(32)", q.cancel(32), -1);
        Check.due("beats", q.count(4), 7);
        Check.due("undoable", q.count(6), 7);
    }

    /** The document promises nothing of so many calls, but the bound is cheap to look at. */
    private static void most() {
        BeatQueues q = Check.told("wait;wait;take;");
        for (int i = 0; i < 9998; i++) {
            q.pause();
        }
        Check.due("as far as 9999 beats", q.run(3), 1);
        Check.due("beats", q.count(4), 9999);
        Check.due("plan", q.count(3), 1);
        Check.due("run", q.run(3), 0);
        Check.due("put", q.put(1, 1), -2);
        Check.due("take", q.take(), -2);
        Check.due("both", q.both(1, 1), -2);
        Check.due("pause", q.pause(), -2);
        Check.due("cancel", q.cancel(1), -2);
        Check.due("renew", q.renew(1, 1), -2);
        Check.due("NONE goes first: put", q.put(1000, 1), -1);
        Check.due("NONE goes first: cancel", q.cancel(32), -1);
        Check.due("what is tried is not bound", q.lands(1, 5), 0);
        Check.due("undo", q.undo(), 19);
        Check.due("put again", q.put(1, 1), 9999);
        Check.due("its stamp", q.head(2, 2), 9998);
        Check.due("what is tried is not bound", q.drains(0), 1);
    }

    private static void put() {
        BeatQueues q = new BeatQueues();
        q.put(50, 0);
        q.put(30, 1);
        Check.row(q, "shift row", 0, 0, 30, 50, -2);
        Check.row(q, "handing row", 1, 0, 30, -2);
        Check.hands(q, "handing row", 50, -2);
        Check.row(q, "heap", 2, 1, 30, -2, -2);
        Check.token(q, "heap", 1, 2, 0, 50);
        Check.row(q, "buckets", 3, 0, 50, 30, -2);
        q.put(750, 2);
        Check.row(q, "shift row", 0, 0, 30, 50, 750);
        Check.row(q, "handing row", 1, 0, 30, 50, -2);
        Check.hands(q, "handing row", 750, -2);
        Check.row(q, "heap", 2, 1, 30, 50, -2);
        Check.token(q, "heap", 1, 2, 0, 750);
        Check.row(q, "buckets", 3, 0, 50, 30, -2, -2, -2, -2, -2, -2, -2, -2, -2, -2, 750, -2);
        q.put(40, 3);
        Check.row(q, "shift row", 0, 0, 30, 40, 50, 750);
        Check.row(q, "handing row", 1, 0, 30, 50, -2);
        Check.hands(q, "handing row", 40, 750, -2);
        Check.row(q, "heap", 2, 1, 30, 50, -2, -2);
        Check.token(q, "heap: FREE of 2 is above 0", 1, 2, 0, 40);
        Check.token(q, "heap", 2, 4, 0, 750);
        q.put(60, 4);
        Check.row(q, "handing row", 1, 0, 30, 40, 750);
        Check.hands(q, "handing row", 60, 50, -2);
        Check.row(q, "heap", 2, 1, 30, 40, -2, 750, -2);
        Check.token(q, "heap: FREE of 2 is 0", 1, 3, 0, 60);
        Check.token(q, "heap: FREE of 4 is 0", 2, 5, 0, 50);
    }

    private static void ties() {
        BeatQueues q = new BeatQueues();
        q.put(5, 1);
        q.put(5, 2);
        q.put(5, 3);
        for (int m = 0; m < 4; m++) {
            Check.due("who came first " + m, q.head(m, 1), 1);
            Check.due("then " + m, q.drained(m, 1, 1), 2);
            Check.due("at last " + m, q.drained(m, 2, 1), 3);
        }
    }

    private static void fallingOff() {
        BeatQueues q = Check.told("row 2; levels 2; buckets 2 2;");
        q.put(10, 0);
        q.put(20, 1);
        q.put(30, 2);
        Check.due("shift row lost", q.of(0, 2), 1);
        Check.due("buckets lost", q.of(3, 2), 1);
        Check.row(q, "shift row", 0, 0, 10, 20);
        Check.row(q, "buckets", 3, 0, 10, 20, -2, -2);
        q.put(5, 3);
        Check.row(q, "shift row: the last one is lost", 0, 0, 5, 10);
        Check.row(q, "buckets: the new one is lost", 3, 0, 10, 20, -2, -2);
        Check.due("shift row lost", q.of(0, 2), 2);
        Check.due("buckets lost", q.of(3, 2), 2);
        Check.due("heap refused", q.of(2, 3), 1);
        Check.due("heap has not lost", q.of(2, 2), 0);
        Check.due("handing row has not lost yet", q.of(1, 2), 0);
        Check.row(q, "handing row", 1, 0, 5, 20);
        Check.hands(q, "handing row", 10, 30);
        q.pause();
        Check.due("handing row lost 30", q.of(1, 2), 1);
        Check.row(q, "handing row", 1, 0, 5, 10);
        Check.hands(q, "handing row", -2, 20);
        q.pause();
        Check.due("handing row lost 20", q.of(1, 2), 2);
        Check.due("handing row has", q.of(1, 0), 2);
        Check.due("nothing else refused", q.of(0, 3) + q.of(1, 3) + q.of(3, 3), 0);
    }

    private static void take() {
        BeatQueues q = new BeatQueues();
        q.put(50, 0);
        q.put(30, 1);
        q.take();
        int[] keys = {30, 30, 30, 50};
        int[] left = {50, 50, 50, 30};
        for (int m = 0; m < 4; m++) {
            Check.due("out " + m, Check.out(q, m, 0), keys[m]);
            Check.due("head " + m, q.head(m, 0), left[m]);
            Check.due("no miss " + m, q.of(m, 4), 0);
        }
        Check.token(q, "heap", 1, 2, 1, -2);
        Check.due("free(1)", q.free(1), 6);
        Check.due("free(2)", q.free(2), 3);
        q.take();
        q.take();
        for (int m = 0; m < 4; m++) {
            Check.due("out of nothing " + m, Check.out(q, m, 0), -2);
            Check.due("a miss " + m, q.of(m, 4), 1);
            Check.due("outs " + m, q.of(m, 6), 2);
        }
        Check.due("free(1)", q.free(1), 7);
    }

    private static void takeFromTheRight() {
        BeatQueues q = Check.told("levels 2; buckets 4 2;");
        q.put(1, 0);
        q.put(500, 1);
        q.put(300, 2);
        q.pause();
        Check.row(q, "heap", 2, 1, 1, 500, 300);
        Check.row(q, "buckets", 3, 0, 1, -2, 300, -2, 500, -2);
        q.take();
        Check.row(q, "heap: the less one is on the right", 2, 1, 300, 500, -2);
        Check.token(q, "heap", 1, 3, 1, -2);
        Check.due("free(3)", q.free(3), 1);
        Check.due("free(2)", q.free(2), 0);
        Check.row(q, "buckets: the others stay", 3, 0, -2, -2, 300, -2, 500, -2);
        q.put(400, 3);
        Check.token(q, "heap: where there is room", 1, 3, 0, 400);
        q.both(600, 4);
        Check.row(q, "heap", 2, 1, 400, 500, -2);
        Check.token(q, "heap: the less one is on the right", 1, 3, 2, 600);
    }

    private static void bothInAShortRow() {
        BeatQueues q = Check.told("row 2;");
        q.put(10, 0);
        q.put(20, 1);
        q.pause();
        q.both(25, 2);
        Check.row(q, "the last cell's is pulled", 1, 0, 20, -2);
        Check.hands(q, "the last cell's is pulled", 25, -2);
        q.pause();
        Check.row(q, "and is kept", 1, 0, 20, 25);
        Check.hands(q, "and is kept", -2, -2);
        Check.due("nothing lost", q.of(1, 2), 0);
    }

    private static BeatQueues tenTwentyThirty() {
        BeatQueues q = new BeatQueues();
        q.put(10, 0);
        q.put(20, 1);
        q.put(30, 2);
        q.pause();
        q.pause();
        Check.row(q, "heap", 2, 1, 10, 20, -2, 30);
        return q;
    }

    private static void both() {
        BeatQueues q = tenTwentyThirty();
        q.both(25, 3);
        for (int m = 0; m < 4; m++) {
            Check.due("out " + m, Check.out(q, m, 0), 10);
            Check.due("head " + m, q.head(m, 0), 20);
        }
        Check.row(q, "shift row", 0, 0, 20, 25, 30);
        Check.row(q, "handing row: what is next is pulled", 1, 0, 20, -2, 30);
        Check.hands(q, "handing row", 25, -2, -2);
        Check.row(q, "heap", 2, 1, 20, -2, -2, 30);
        Check.token(q, "heap", 1, 2, 2, 25);
        Check.due("token's name", q.token(1, 3), 3);
        Check.due("token's stamp", q.token(1, 4), 5);
        Check.due("free(1)", q.free(1), 4);
        Check.due("free(2)", q.free(2), 1);
        Check.row(q, "buckets", 3, 0, 20, 30, 25, -2);
        q.pause();
        Check.row(q, "handing row", 1, 0, 20, 25, 30);
        Check.row(q, "heap", 2, 1, 20, 25, -2, 30);
        Check.noToken(q, "heap", 1);
        Check.noToken(q, "heap", 2);
        // one that is less than all stays on top
        q.both(1, 4);
        Check.row(q, "handing row", 1, 0, 1, 25, 30);
        Check.row(q, "heap", 2, 1, 1, 25, -2, 30);
        Check.row(q, "shift row", 0, 0, 1, 25, 30);
        // one that is greater than all goes down to the last place
        q.both(900, 5);
        Check.token(q, "heap", 1, 2, 2, 900);
        q.pause();
        Check.row(q, "handing row", 1, 0, 25, 30, -2);
        Check.hands(q, "handing row", -2, 900);
        Check.token(q, "heap", 2, 4, 2, 900);
        Check.row(q, "heap", 2, 1, 25, 30, -2, -2);
        q.pause();
        Check.row(q, "handing row", 1, 0, 25, 30, 900);
        Check.row(q, "heap", 2, 1, 25, 30, -2, 900);
    }

    private static void bothWithoutHead() {
        BeatQueues q = Check.told("row 1; levels 1; buckets 1 1;");
        q.both(7, 1);
        for (int m = 0; m < 4; m++) {
            Check.due("nothing is out " + m, Check.out(q, m, 0), -2);
            Check.due("a miss " + m, q.of(m, 4), 1);
            Check.due("it is there " + m, q.head(m, 0), 7);
        }
        Check.due("free(1)", q.free(1), 0);
        // full, but there is room once the head is out
        q.both(9, 2);
        for (int m = 0; m < 4; m++) {
            Check.due("out " + m, Check.out(q, m, 0), 7);
            Check.due("it is there " + m, q.head(m, 0), 9);
            Check.due("nothing lost " + m, q.of(m, 2) + q.of(m, 3), 0);
        }
    }

    private static void pauseMovesOn() {
        BeatQueues q = new BeatQueues();
        q.put(1, 0);
        q.put(2, 1);
        q.pause();
        Check.row(q, "handing row", 1, 0, 1, 2, -2);
        Check.hands(q, "handing row", -2, -2);
        Check.row(q, "heap", 2, 1, 1, 2, -2);
        Check.noToken(q, "heap", 1);
        for (int m = 0; m < 4; m++) {
            Check.due("nothing is out " + m, Check.out(q, m, 0), -2);
            Check.due("all are there " + m, q.of(m, 0), 2);
            Check.due("no miss " + m, q.of(m, 4), 0);
        }
    }

    private static BeatQueues fiveMarkedBeforeSeven() {
        BeatQueues q = new BeatQueues();
        q.put(5, 0);
        q.renew(7, 0);
        return q;
    }

    private static void pauseSweeps() {
        BeatQueues q = fiveMarkedBeforeSeven();
        q.pause();
        for (int m = 0; m < 4; m++) {
            Check.due("head " + m, q.head(m, 0), 7);
            Check.due("swept " + m, q.of(m, 5), m == 0 ? 0 : 1);
            Check.due("no miss " + m, q.of(m, 4), 0);
            Check.due("nothing is out " + m, Check.out(q, m, 0), -2);
            Check.due("no outs " + m, q.of(m, 6), 0);
            Check.due("nothing in the log " + m, q.log(m, 0, 0), -2);
        }
        Check.token(q, "heap", 1, 2, 1, -2);
        Check.due("free(1)", q.free(1), 6);
    }

    private static void cancel() {
        BeatQueues q = new BeatQueues();
        q.put(50, 0);
        q.put(30, 1);
        q.put(40, 0);
        q.cancel(0);
        Check.row(q, "shift row: the one with the least stamp", 0, 0, 30, 40, -2);
        for (int m = 1; m < 3; m++) {
            Check.due("marked " + m, q.of(m, 1), 1);
            Check.due("entries " + m, q.of(m, 0), 3);
            Check.due("not swept " + m, q.of(m, 5), 0);
        }
        Check.hands(q, "handing row: what is handed on is marked too", -2, 50);
        Check.due("marked", q.handed(1, 3), 1);
        Check.row(q, "handing row", 1, 0, 30, 40);
        Check.due("not marked", q.kept(1, 1, 3), 0);
        Check.token(q, "heap: what a token has is marked too", 2, 4, 0, 50);
        q.pause();
        Check.due("marked in its node", q.kept(2, 4, 3), 1);
        Check.due("buckets: head was marked and swept", q.of(3, 5), 1);
        Check.row(q, "buckets", 3, 0, 30, 40, -2);
        q.cancel(0);
        Check.row(q, "shift row: the other one", 0, 0, 30, -2);
        Check.due("both are marked", q.of(1, 1), 2);
        Check.due("both are marked", q.of(2, 1), 2);
        Check.due("the one that isn't head is marked", q.kept(3, 1, 3), 1);
        q.cancel(0);
        Check.due("no more to mark", q.of(1, 1), 2);
    }

    private static void cancelOfNone() {
        BeatQueues q = new BeatQueues();
        q.put(5, 1);
        q.cancel(2);
        for (int m = 0; m < 4; m++) {
            Check.due("entries " + m, q.of(m, 0), 1);
            Check.due("marked " + m, q.of(m, 1), 0);
            Check.due("no miss " + m, q.of(m, 4), 0);
            Check.due("not swept " + m, q.of(m, 5), 0);
        }
    }

    private static void cancelSweeps() {
        BeatQueues q = new BeatQueues();
        q.put(5, 1);
        q.cancel(1);
        for (int m = 0; m < 4; m++) {
            Check.due("entries " + m, q.of(m, 0), 0);
            Check.due("swept " + m, q.of(m, 5), m == 0 ? 0 : 1);
            Check.due("no miss " + m, q.of(m, 4), 0);
        }
        // a head that was marked ahead of it is swept too, whatever the name
        BeatQueues r = fiveMarkedBeforeSeven();
        r.cancel(9);
        for (int m = 1; m < 4; m++) {
            Check.due("head " + m, r.head(m, 0), 7);
            Check.due("swept " + m, r.of(m, 5), 1);
        }
        // one is swept in a beat, though the next one is marked too
        BeatQueues s = fiveMarkedBeforeSeven();
        s.cancel(0);
        for (int m = 1; m < 4; m++) {
            Check.due("head " + m, s.head(m, 0), 7);
            Check.due("head is marked " + m, s.head(m, 3), 1);
            Check.due("swept " + m, s.of(m, 5), 1);
        }
    }

    private static void takeSweeps() {
        BeatQueues q = fiveMarkedBeforeSeven();
        q.take();
        Check.due("shift row: out", Check.out(q, 0, 0), 7);
        for (int m = 1; m < 4; m++) {
            Check.due("nothing is out " + m, Check.out(q, m, 0), -2);
            Check.due("a miss " + m, q.of(m, 4), 1);
            Check.due("swept " + m, q.of(m, 5), 1);
            Check.due("head " + m, q.head(m, 0), 7);
        }
    }

    private static void bothSweeps() {
        BeatQueues q = fiveMarkedBeforeSeven();
        q.both(9, 1);
        Check.due("shift row: out", Check.out(q, 0, 0), 7);
        for (int m = 1; m < 4; m++) {
            Check.due("nothing is out " + m, Check.out(q, m, 0), -2);
            Check.due("a miss " + m, q.of(m, 4), 1);
            Check.due("swept " + m, q.of(m, 5), 1);
            Check.due("head " + m, q.head(m, 0), 7);
            Check.due("entries " + m, q.of(m, 0), 2);
        }
        Check.hands(q, "handing row", 9, -2);
        Check.token(q, "heap", 1, 2, 2, 9);
        Check.row(q, "buckets", 3, 0, 7, 9, -2);
    }

    private static void renew() {
        BeatQueues q = fiveMarkedBeforeSeven();
        Check.row(q, "shift row", 0, 0, 7, -2);
        Check.due("its stamp", q.head(0, 2), 1);
        for (int m = 1; m < 4; m++) {
            Check.due("head is marked " + m, q.head(m, 3), 1);
            Check.due("head stays " + m, q.head(m, 0), 5);
            Check.due("not swept " + m, q.of(m, 5), 0);
            Check.due("entries " + m, q.of(m, 0), 2);
            Check.due("marked " + m, q.of(m, 1), 1);
        }
        // the one that isn't marked is the next to be renewed
        q.renew(3, 0);
        Check.row(q, "shift row", 0, 0, 3, -2);
        Check.row(q, "handing row", 1, 0, 3, 7);
        Check.due("7 is marked", q.kept(1, 1, 3), 1);
        Check.due("3 is not", q.kept(1, 0, 3), 0);
        Check.row(q, "buckets", 3, 0, 5, 7, 3);
        Check.due("marked", q.of(3, 1), 2);
    }

    private static void renewOfNone() {
        BeatQueues q = new BeatQueues();
        q.put(5, 0);
        Check.due("a beat all the same", q.renew(3, 1), 2);
        for (int m = 0; m < 4; m++) {
            Check.due("entries " + m, q.of(m, 0), 1);
            Check.due("head " + m, q.head(m, 0), 5);
        }
        // of marked ones alone, too; and a marked head is not swept
        BeatQueues r = new BeatQueues();
        r.put(1, 3);
        r.put(5, 0);
        r.cancel(0);
        r.take();
        r.renew(4, 0);
        Check.due("shift row", r.of(0, 0), 0);
        Check.due("handing row: marked head stays", r.head(1, 0), 5);
        Check.due("heap: marked head stays", r.head(2, 0), 5);
        Check.due("buckets: marked head stays", r.head(3, 0), 5);
        Check.due("not swept", r.of(1, 5) + r.of(2, 5) + r.of(3, 5), 0);
        // in each by itself: the shift row has lost what the others have
        BeatQueues s = Check.told("row 1;");
        s.put(5, 0);
        s.put(3, 1);
        s.renew(4, 0);
        Check.due("shift row: nothing", s.kept(0, 0, 0), 3);
        Check.due("handing row: lost on its way", s.of(1, 0), 1);
        Check.due("heap: two and a marked one", s.of(2, 0), 3);
        Check.due("buckets", s.of(3, 1), 1);
    }

    private static void renewWithoutRoom() {
        BeatQueues q = Check.told("row 1; levels 1; buckets 1 1;");
        q.put(5, 0);
        q.renew(3, 0);
        Check.row(q, "shift row", 0, 0, 3);
        Check.row(q, "handing row", 1, 0, 3);
        Check.hands(q, "handing row", 5);
        Check.row(q, "heap", 2, 1, 5);
        Check.due("heap: refused", q.of(2, 3), 1);
        Check.due("heap: marked", q.head(2, 3), 1);
        Check.row(q, "buckets", 3, 0, 5);
        Check.due("buckets: lost", q.of(3, 2), 1);
        Check.due("buckets: marked", q.head(3, 3), 1);
        q.pause();
        Check.due("handing row: a marked one is lost", q.of(1, 2), 1);
        Check.due("heap: swept", q.of(2, 5), 1);
        Check.due("buckets: swept", q.of(3, 5), 1);
    }

    private static void run() {
        BeatQueues q = Check.told("put a 50;put b 30;both c 40;cancel a;wait;renew c 20;take;");
        Check.due("run(0)", q.run(0), -1);
        Check.due("run(41)", q.run(41), -1);
        Check.due("run(-1)", q.run(-1), -1);
        Check.due("run(2)", q.run(2), 2);
        Check.due("how far", q.count(3), 2);
        Check.due("head", q.head(0, 1), 1);
        Check.due("a beat by call", q.pause(), 3);
        Check.due("the plan waits", q.count(3), 2);
        Check.due("run(1)", q.run(1), 1);
        Check.due("out by both", Check.out(q, 0, 0), 30);
        Check.due("in by both", q.head(0, 0), 40);
        Check.due("its stamp", q.head(0, 2), 3);
        Check.due("run(40), as far as it goes", q.run(40), 4);
        Check.due("beats", q.count(4), 8);
        Check.due("renewed and out", Check.out(q, 0, 0), 20);
        Check.due("at its end", q.run(40), 0);
        Check.due("how far", q.count(3), 7);
    }
}
