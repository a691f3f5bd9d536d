/** Promises 35, 37 and 39 to 42: what came out, undoing, images, counts. */
public final class PastTest {
    public static void main(String[] args) {
        swaps();
        swapsOfTheLatestTwenty();
        log();
        undo();
        undoOfThePlan();
        undoTwentyAtMost();
        undoBringsBackTheLog();
        image();
        imageAndUndo();
        count();
        Check.end();
    }

    private static void swaps() {
        BeatQueues q = new BeatQueues();
        q.put(50, 0);
        q.put(30, 1);
        q.take();
        Check.due("one alone", q.swaps(3), 0);
        q.take();
        Check.due("30 came behind 50", q.swaps(3), 1);
        for (int m = 0; m < 3; m++) {
            Check.due("in order " + m, q.swaps(m), 0);
        }
        q.put(10, 2);
        q.take();
        Check.due("10 came when 50 and 30 were out", q.swaps(3), 1);
        // in the very beat in which the other one was out is not ahead of it
        BeatQueues r = new BeatQueues();
        r.put(50, 0);
        r.both(30, 1);
        r.take();
        for (int m = 0; m < 4; m++) {
            Check.due("came with both " + m, r.swaps(m), 0);
        }
        BeatQueues s = new BeatQueues();
        s.put(40, 0);
        s.put(30, 0);
        s.put(20, 0);
        s.put(10, 0);
        for (int i = 0; i < 4; i++) {
            s.take();
        }
        Check.due("all couples", s.swaps(3), 6);
        Check.due("no such machine", s.swaps(4), -1);
        Check.due("no such machine", s.swaps(-1), -1);
    }

    private static void swapsOfTheLatestTwenty() {
        BeatQueues q = new BeatQueues();
        q.put(50, 0);
        q.put(30, 1);
        q.take();
        q.take();
        for (int i = 0; i < 18; i++) {
            q.put(100, 2);
            q.take();
        }
        Check.due("both are kept yet", q.swaps(3), 1);
        q.put(100, 2);
        q.take();
        Check.due("the first one isn't kept", q.swaps(3), 0);
        q.undo();
        Check.due("it is again", q.swaps(3), 1);
    }

    private static void log() {
        BeatQueues q = new BeatQueues();
        q.put(50, 3);
        q.put(30, 4);
        q.take();
        q.pause();
        q.take();
        int[][] shift = {{50, 3, 0, 4}, {30, 4, 1, 2}};
        for (int k = 0; k < 2; k++) {
            for (int what = 0; what < 4; what++) {
                for (int m = 0; m < 3; m++) {
                    Check.due("log(" + m + "," + k + "," + what + ")", q.log(m, k, what), shift[k][what]);
                }
                int buckets = what == 3 ? shift[k][what] : shift[1 - k][what];
                Check.due("log(3," + k + "," + what + ")", q.log(3, k, what), buckets);
            }
        }
        Check.due("not so many", q.log(0, 2, 0), -2);
        Check.due("not so many", q.log(0, 2, 3), -2);
        Check.due("not so many", q.log(0, Integer.MAX_VALUE, 0), -2);
        Check.due("no such k", q.log(0, -1, 0), -1);
        Check.due("no such what", q.log(0, 0, 4), -1);
        Check.due("no such what goes first", q.log(0, 2, -1), -1);
        Check.due("no such machine", q.log(4, 0, 0), -1);
        Check.due("no such machine", q.log(-1, 0, 0), -1);
        BeatQueues r = new BeatQueues();
        for (int i = 0; i < 25; i++) {
            r.put(i, i % 32);
            r.take();
        }
        for (int k = 0; k < 20; k++) {
            Check.due("the latest twenty", r.log(1, k, 0), 24 - k);
            Check.due("their beats", r.log(1, k, 3), 49 - 2 * k);
        }
        Check.due("20 are kept", r.log(1, 20, 0), -2);
    }

    private static void undo() {
        BeatQueues q = new BeatQueues();
        Check.due("none could", q.undo(), -1);
        String[] before = new String[8];
        for (int i = 0; i < 7; i++) {
            before[i] = TrialsTest.look(q);
            switch (i) {
                case 0: q.put(50, 0); break;
                case 1: q.put(30, 1); break;
                case 2: q.renew(20, 0); break;
                case 3: q.both(40, 2); break;
                case 4: q.cancel(1); break;
                case 5: q.take(); break;
                default: q.pause(); break;
            }
        }
        q.put(1000, 0);
        Check.due("no beat, nothing to undo", q.count(6), 7);
        for (int i = 6; i >= 0; i--) {
            Check.due("undo", q.undo(), i);
            Check.holds("all is as ahead of beat " + i, before[i].equals(TrialsTest.look(q)));
        }
        Check.due("none could", q.undo(), -1);
    }

    private static void undoOfThePlan() {
        BeatQueues q = Check.told("put a 50;put b 30;take;take;");
        q.run(3);
        Check.due("out", Check.out(q, 0, 0), 30);
        Check.due("each beat by itself", q.undo(), 2);
        Check.due("the plan goes back", q.count(3), 2);
        Check.due("beats", q.count(4), 2);
        Check.due("nothing is out", Check.out(q, 0, 0), -2);
        q.undo();
        q.put(10, 5);
        Check.due("how far", q.count(3), 1);
        Check.due("the rest of it", q.run(40), 3);
        Check.due("out", Check.out(q, 0, 0), 30);
    }

    private static void undoTwentyAtMost() {
        BeatQueues q = new BeatQueues();
        for (int i = 1; i <= 25; i++) {
            q.put(i, 0);
            Check.due("undoable", q.count(6), Math.min(i, 20));
        }
        for (int i = 19; i >= 0; i--) {
            Check.due("undo", q.undo(), i);
            Check.due("beats", q.count(4), i + 5);
        }
        Check.due("none could", q.undo(), -1);
        Check.due("beats stay", q.count(4), 5);
        q.take();
        Check.due("undo again", q.undo(), 0);
        for (int i = 0; i < 30; i++) {
            q.take();
        }
        Check.due("undo again", q.undo(), 19);
    }

    private static void undoBringsBackTheLog() {
        BeatQueues q = new BeatQueues();
        for (int i = 0; i < 22; i++) {
            q.put(i, 0);
            q.take();
        }
        q.undo();
        Check.due("the latest", q.log(0, 0, 0), 20);
        Check.due("the twentieth is there again", q.log(0, 19, 0), 1);
        Check.due("the longest", q.waited(0, 1), 1);
        Check.due("out in all", q.of(0, 6), 21);
    }

    private static void image() {
        BeatQueues q = Check.told("put a 50;put b 30;take;take;");
        Check.due("there is none", q.back(), -1);
        q.run(3);
        Check.due("keep", q.keep(), 3);
        Check.due("back at once", q.back(), 3);
        String then = TrialsTest.look(q);
        q.run(1);
        q.put(5, 5);
        q.cancel(0);
        Check.due("back", q.back(), 3);
        Check.holds("all is as then", then.equals(TrialsTest.look(q)));
        Check.due("nothing to undo", q.count(6), 0);
        Check.due("nothing to undo", q.undo(), -1);
        Check.due("out of its latest beat", Check.out(q, 0, 0), 30);
        Check.due("how far the plan is", q.count(3), 3);
        q.take();
        Check.due("it stays", q.back(), 3);
        q.take();
        q.take();
        Check.due("in place of the one ahead", q.keep(), 5);
        q.put(1, 1);
        Check.due("back", q.back(), 5);
        Check.due("misses too", q.of(0, 4), 1);
        Check.text(q, "row 0;");
        Check.due("a fault leaves it", q.back(), 5);
        Check.text(q, "");
        Check.due("a text takes it away", q.back(), -1);
        Check.due("of a new beginning", q.keep(), 0);
        Check.due("back", q.back(), 0);
    }

    private static void imageAndUndo() {
        BeatQueues q = new BeatQueues();
        q.put(5, 0);
        q.put(6, 0);
        q.keep();
        Check.due("keeping leaves what can be undone", q.count(6), 2);
        Check.due("undo", q.undo(), 1);
        Check.due("undoing leaves the image", q.back(), 2);
        Check.due("both are there", q.of(0, 0), 2);
        Check.due("nothing to undo", q.undo(), -1);
        q.take();
        Check.due("undo", q.undo(), 0);
        Check.due("both are there", q.of(0, 0), 2);
        q.feed(0, 0, 0, 0, 0);
        q.back();
        Check.due("the tape isn't of it", q.count(7), 20);
    }

    private static void count() {
        BeatQueues q = Check.told("row 3; levels 2; buckets 5 6; put ab 1; put b 2;take;cancel ab;");
        q.run(3);
        q.put(1, 1);
        q.undo();
        q.feed(0, 0, 0, 0, 0);
        int[] want = {3, 2, 4, 3, 3, 2, 3, 20, 5, 6};
        for (int what = 0; what < 10; what++) {
            Check.due("count(" + what + ")", q.count(what), want[what]);
        }
        Check.due("count(10)", q.count(10), -1);
        Check.due("count(-1)", q.count(-1), -1);
        Check.due("NONE", BeatQueues.NONE, -1);
    }
}
