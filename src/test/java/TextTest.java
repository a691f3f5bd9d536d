/** Promises 1 to 5: a new object, the TAPE, the TEXT, its FAULTS, NAMES. */
public final class TextTest {
    private static final String LETTERS = "abcdefghijklmnopqrstuvwxyz";

    public static void main(String[] args) {
        newObject();
        feed();
        textAnswers();
        textStartsOver();
        textWithFaultChangesNothing();
        grammar();
        faultOne();
        faultTwo();
        faultThreeAndFour();
        faultsThatMeet();
        faultCalls();
        named();
        Check.end();
    }

    private static void newObject() {
        BeatQueues q = new BeatQueues();
        int[] counts = {8, 3, 0, 0, 0, 0, 0, 0, 4, 4};
        for (int what = 0; what < 10; what++) {
            Check.due("new count " + what, q.count(what), counts[what]);
        }
        for (int m = 0; m < 4; m++) {
            for (int what = 0; what < 7; what++) {
                Check.due("new of " + m + "," + what, q.of(m, what), 0);
            }
            Check.due("new settled " + m, q.of(m, 7), 1);
            Check.due("new head " + m, q.head(m, 0), -2);
            Check.due("new out " + m, Check.out(q, m, 0), -2);
            Check.due("new log " + m, q.log(m, 0, 0), -2);
            Check.due("new waited " + m, q.waited(m, 1), 0);
        }
        Check.due("new undo", q.undo(), -1);
        Check.due("new back", q.back(), -1);
        Check.due("new text(0)", q.text(0), 0);
    }

    private static void feed() {
        BeatQueues q = new BeatQueues();
        for (int i = 1; i <= 35; i++) {
            Check.due("feed " + i, q.feed(0x20202020, 0x20202020, 0x20202020, 0x20202020, 0x20202020), 20 * i);
        }
        Check.due("feed beyond 700", q.feed(0, 0, 0, 0, 0), -1);
        Check.due("tape stays", q.count(7), 700);
        Check.due("700 blanks", q.text(700), 0);
        Check.due("tape is empty", q.count(7), 0);
        // the highest byte of a number comes first
        Check.due("feed", q.feed(0x70757420, 0x6120353b, 0x74616b65, 0x3b202020, 0x80ff00aa), 20);
        Check.due("text", q.text(16), 2);
        q.feed(0x70757420, 0x6120353b, 0x74616b65, 0x3b202020, 0x80ff00aa);
        Check.due("a byte above 127", q.text(17), -1);
        Check.due("its kind", q.fault(0), 1);
        Check.due("its place", q.fault(1), 16);
    }

    private static void textAnswers() {
        BeatQueues q = new BeatQueues();
        Check.due("of an empty tape", q.text(1), -2);
        Check.due("below 0", q.text(-1), -2);
        Check.due("least of all", q.text(Integer.MIN_VALUE), -2);
        Check.feed(q, "take;wait;row 3;    ".getBytes());
        Check.due("one too many", q.text(21), -2);
        Check.due("the tape stays", q.count(7), 20);
        Check.due("most of all", q.text(Integer.MAX_VALUE), -2);
        Check.due("three lines", q.text(20), 3);
        Check.due("two are of the plan", q.count(2), 2);
        Check.due("the tape is empty", q.count(7), 0);
        Check.feed(q, "take;wait;row 3;    ".getBytes());
        Check.due("the first 10 bytes alone", q.text(10), 2);
        Check.due("what is behind them is gone too", q.count(7), 0);
        Check.due("row as without lines", q.count(0), 8);
        Check.feed(q, "take;".getBytes());
        Check.due("nothing of the tape", q.text(0), 0);
        Check.due("the tape is empty again", q.count(7), 0);
        // a word, a number that goes on behind the first n bytes ends there
        Check.feed(q, "take;wait;".getBytes());
        Check.due("a word cut short", q.text(8), -1);
        Check.due("its kind", q.fault(0), 1);
        Check.due("its place", q.fault(1), 5);
        Check.feed(q, "take;take;wait;".getBytes());
        Check.due("nothing behind a line", q.text(10), 2);
        Check.feed(q, "row 12;".getBytes());
        Check.due("a number cut short", q.text(5), -1);
        Check.due("more must come", q.fault(1), 5);
    }

    private static void textStartsOver() {
        BeatQueues q = Check.told("row 3; levels 2; buckets 2 5; seed 7; put ab 1; put b 2;");
        int[] counts = {3, 2, 2, 0, 0, 2, 0, 0, 2, 5};
        for (int what = 0; what < 10; what++) {
            Check.due("count " + what, q.count(what), counts[what]);
        }
        q.run(2);
        q.take();
        q.take();
        q.take();
        for (int i = 0; i < 9; i++) {
            q.put(i, i);
        }
        q.keep();
        Check.due("undoable", q.count(6), 14);
        Check.due("lost", q.of(0, 2), 6);
        Check.due("refused", q.of(2, 3), 6);
        Check.due("a text of no lines", Check.text(q, " "), 0);
        newCounts(q);
        Check.due("the seed too", q.chance(-1, 60, 3, 3), q.chance(0, 60, 3, 3));
        Check.due("one with lines", Check.text(q, "put a 1;seed 5;buckets 2 3;"), 3);
        Check.due("again of no lines", Check.text(q, ""), 0);
        newCounts(q);
        Check.due("the seed too", q.chance(-1, 60, 3, 3), q.chance(0, 60, 3, 3));
        Check.due("one with lines", Check.text(q, "put a 1;take;"), 2);
        Check.due("all of them", q.count(2), 2);
        Check.text(q, "");
        Check.due("no image", q.back(), -1);
        Check.due("nothing to undo", q.undo(), -1);
        Check.due("no such name", q.named(Check.letters("b")), -1);
        Check.due("levels", q.free(1), 7);
        Check.due("cells", q.kept(0, 7, 0), -2);
        Check.due("handing cells", q.handed(7, 0), -2);
        Check.due("places", q.kept(3, 15, 0), -2);
        Check.due("no more places", q.kept(3, 16, 0), -1);
    }

    private static void newCounts(BeatQueues q) {
        int[] counts = {8, 3, 0, 0, 0, 0, 0, 0, 4, 4};
        for (int what = 0; what < 10; what++) {
            Check.due("as new, count " + what, q.count(what), counts[what]);
        }
        for (int m = 0; m < 4; m++) {
            for (int what = 0; what < 7; what++) {
                Check.due("as new, of " + m + "," + what, q.of(m, what), 0);
            }
            Check.due("as new, out " + m, Check.out(q, m, 0), -2);
            Check.due("as new, log " + m, q.log(m, 0, 0), -2);
            Check.due("as new, waited " + m, q.waited(m, 0), 0);
            Check.due("as new, swaps " + m, q.swaps(m), 0);
        }
    }

    private static void textWithFaultChangesNothing() {
        BeatQueues q = Check.told("row 3; seed 5; put ab 1; put b 2; take;");
        q.run(2);
        q.keep();
        q.put(9, 9);
        Check.due("a fault", Check.text(q, "row 5; put c 7; rows"), -1);
        int[] counts = {3, 3, 3, 2, 3, 2, 3, 0, 4, 4};
        for (int what = 0; what < 10; what++) {
            Check.due("stays, count " + what, q.count(what), counts[what]);
        }
        Check.due("stays, head", q.head(0, 0), 1);
        Check.due("stays, named", q.named(Check.letters("b")), 1);
        Check.due("stays, not named", q.named(Check.letters("c")), -1);
        Check.due("stays, undo", q.undo(), 2);
        Check.due("stays, image", q.back(), 2);
        Check.due("stays, the plan", q.run(40), 1);
        Check.due("stays, what it did", Check.out(q, 0, 0), 1);
        Check.due("stays, a fault in between", q.leastRow(0), 2);
    }

    private static void grammar() {
        Check.fault("", 0, -1);
        Check.fault(" \n ", 0, -1);
        Check.fault("put\nabcdef999;cancel\n\nabcdef ; wait;take ;row16;", 0, -1);
        Check.fault("row 1;levels 1;buckets 1 1;seed 0;", 0, -1);
        Check.fault("row 16;levels 4;buckets 8 8;seed 99999;", 0, -1);
        Check.fault("row 0000000000000000000000016;put a 00999;put b 0;", 0, -1);
        Check.fault("wait;wait;row 2;wait;seed 3;", 0, -1);
        Check.fault("both a 1;cancel a;renew a 2;put a 3;", 0, -1);
        Check.fault("put rows 1;put pu 2;put seeds 3;put but 4;put puu 5;put bake 6;put sow 7;", 0, -1);
        BeatQueues q = Check.told("both a 1;cancel a;renew a 2;put a 3;");
        Check.due("one name", q.count(5), 1);
        Check.due("lines of the plan", q.count(2), 4);
    }

    private static void faultOne() {
        Check.fault(";", 1, 0);
        Check.fault("take;;", 1, 5);
        Check.fault("7;", 1, 0);
        Check.fault("take", 1, 4);
        Check.fault("take \n ", 1, 7);
        Check.fault("put", 1, 3);
        Check.fault("put a", 1, 5);
        Check.fault("put a 1", 1, 7);
        Check.fault("put 1 a;", 1, 4);
        Check.fault("put a b;", 1, 6);
        Check.fault("put a 1 2;", 1, 8);
        Check.fault("put a;", 1, 5);
        Check.fault("take a;", 1, 5);
        Check.fault("wait 1;", 1, 5);
        Check.fault("row;", 1, 3);
        Check.fault("row a;", 1, 4);
        Check.fault("row 1 1;", 1, 6);
        Check.fault("buckets 1;", 1, 9);
        Check.fault("puts a 1;", 1, 0);
        Check.fault("pu a 1;", 1, 0);
        Check.fault("but a 1;", 1, 0);
        Check.fault("puu a 1;", 1, 0);
        Check.fault("bake;", 1, 0);
        Check.fault("sow 3;", 1, 0);
        Check.fault("wait;waits;", 1, 5);
        Check.fault("put abcdefg 1;", 1, 4);
        Check.fault("put buckets 1;", 1, 4);
        Check.fault("put row 1;", 1, 4);
        Check.fault("put put 1;", 1, 4);
        Check.fault("put seed 1;", 1, 4);
        Check.fault("Put a 1;", 1, 0);
        Check.fault("put A 1;", 1, 4);
        Check.fault("put a -1;", 1, 6);
        Check.fault("put\ta 1;", 1, 3);
        Check.fault("take;\r", 1, 5);
        Check.fault("take,", 1, 4);
        Check.fault("put a{1;", 1, 5);
        Check.fault("put a`1;", 1, 5);
        Check.fault("put a 1:", 1, 7);
        Check.fault("put a /1;", 1, 6);
        Check.fault("put a_b 1;", 1, 5);
        Check.fault("\u0000", 1, 0);
        Check.fault("\u00e9", 1, 0);
    }

    private static void faultTwo() {
        Check.fault("row 0;", 2, 4);
        Check.fault("row 17;", 2, 4);
        Check.fault("levels 0;", 2, 7);
        Check.fault("levels 5;", 2, 7);
        Check.fault("buckets 0 1;", 2, 8);
        Check.fault("buckets 9 1;", 2, 8);
        Check.fault("buckets 1 0;", 2, 10);
        Check.fault("buckets 1 9;", 2, 10);
        Check.fault("seed 100000;", 2, 5);
        Check.fault("put a 1000;", 2, 6);
        Check.fault("both a 1000;", 2, 7);
        Check.fault("put a 1;renew a 1000;", 2, 16);
        Check.fault("put a 4294967296;", 2, 6);
        Check.fault("put a 18446744073709551617;", 2, 6);
        String plan40 = "take;".repeat(40);
        Check.fault(plan40, 0, -1);
        Check.fault(plan40 + "row 3;", 0, -1);
        Check.fault(plan40 + "take;", 2, 200);
        Check.fault(plan40 + "row 3;\nput abcdefghi", 2, 207);
        Check.fault(plan40 + "tak;", 1, 200);
        StringBuilder names = new StringBuilder();
        for (int i = 0; i < 24; i++) {
            names.append("put ").append(LETTERS.charAt(i)).append(" 1;");
        }
        Check.fault(names.toString(), 0, -1);
        Check.fault(names + "put x 1;cancel a;", 0, -1);
        Check.fault(names + "put y 1;", 2, 24 * 8 + 4);
        Check.fault(names + "both aa 1;", 2, 24 * 8 + 5);
        Check.fault(names + "both abcdefg 1;", 1, 24 * 8 + 5);
    }

    private static void faultThreeAndFour() {
        Check.fault("row 1;row 1;", 3, 6);
        Check.fault("levels 1;take; levels", 3, 15);
        Check.fault("buckets 1 1;buckets 1 1;", 3, 12);
        Check.fault("seed 1;seed 1;", 3, 7);
        Check.fault("seed 0;row 8;levels 3;buckets 4 4;row 8;", 3, 34);
        Check.fault("cancel a;", 4, 7);
        Check.fault("renew a 1;", 4, 6);
        Check.fault("put a 1;cancel b;put b 1;", 4, 15);
        Check.fault("put a 1;renew aa 1;", 4, 14);
        Check.fault("both a 1;renew a 1;cancel a;", 0, -1);
    }

    private static void faultsThatMeet() {
        // the first along the text
        Check.fault("row 0;row 0;", 2, 4);
        Check.fault("cancel a 1000", 4, 7);
        Check.fault("put a 1000", 2, 6);
        Check.fault("renew b 1000;", 4, 6);
        Check.fault("row 1;row 99;", 3, 6);
        // of one place the least
        StringBuilder names = new StringBuilder();
        for (int i = 0; i < 24; i++) {
            names.append("put ").append(LETTERS.charAt(i)).append(" 1;");
        }
        Check.fault(names + "cancel y;", 2, 24 * 8 + 7);
        Check.fault(names + "renew y 1;", 2, 24 * 8 + 6);
        Check.fault("cancel abcdefg;", 1, 7);
        Check.fault("cancel put;", 1, 7);
    }

    private static void faultCalls() {
        BeatQueues q = new BeatQueues();
        Check.due("fault(0) at first", q.fault(0), 0);
        Check.due("fault(1) at first", q.fault(1), -1);
        Check.text(q, "row 0;");
        Check.due("fault(0)", q.fault(0), 2);
        Check.due("fault(1)", q.fault(1), 4);
        Check.due("a text that is -2", q.text(5), -2);
        Check.due("fault(0) stays", q.fault(0), 2);
        Check.due("fault(1) stays", q.fault(1), 4);
        Check.due("fault(2)", q.fault(2), -1);
        Check.due("fault(-1)", q.fault(-1), -1);
        Check.text(q, "row 1;");
        Check.due("fault(0) is gone", q.fault(0), 0);
        Check.due("fault(1) is gone", q.fault(1), -1);
    }

    private static void named() {
        BeatQueues q = Check.told("put abcdef 1;put b 2;both ab 3;put b 4;put zzzzzz 5;cancel ab;");
        Check.due("named abcdef", q.named(35754150), 0);
        Check.due("named b", q.named(2 << 25), 1);
        Check.due("named ab", q.named(1 << 25 | 2 << 20), 2);
        Check.due("named zzzzzz", q.named(Check.letters("zzzzzz")), 3);
        Check.due("named a", q.named(1 << 25), -1);
        Check.due("named ba", q.named(Check.letters("ba")), -1);
        Check.due("named by the last letter", q.named(2), -1);
        Check.due("named 0", q.named(0), -1);
        Check.due("named -1", q.named(-1), -1);
        Check.due("named with more bits", q.named(2 << 25 | 1 << 31), -1);
        Check.due("names", q.count(5), 4);
    }
}
