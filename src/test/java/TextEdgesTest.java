/**
 * The sentences of "Terms" about the TEXT, and promises 1 to 5, one by one: each that names a boundary
 * has a method here, with the sentence above it.
 */
public final class TextEdgesTest {
    private static final String LETTERS = "abcdefghijklmnopqrstuvwxyz";
    private static final String[] LANGUAGE = {"row", "levels", "buckets", "seed", "put", "take", "both", "wait", "cancel",
        "renew"};
    private static final String[] NEARLY = {"ro", "rows", "level", "levelx", "bucket", "see", "seeds", "pu", "puts", "tak",
        "takes", "bot", "boths", "wai", "waits", "cance", "rene", "renews", "but", "bake", "sow", "need", "moth", "bait",
        "dancel", "bevels"};

    public static void main(String[] args) {
        linesAndTheirEnds();
        wordsOfTheLanguageAreNoNames();
        namesHaveOneToSixLetters();
        wordsAndNumbersEndByThemselves();
        numbersAreDigits();
        blanksAreTwo();
        settingsAndTheirBounds();
        settingsThatAreNotTold();
        planOfFortyLines();
        keysAndTheirBounds();
        namesAndTheirNumbers();
        twentyFourNames();
        moreMustCome();
        cannotStandThere();
        toldAlready();
        notToldAhead();
        firstAlongTheText();
        ofOnePlaceTheLeast();
        aNewObject();
        feedUpToSevenHundred();
        feedHighestByteFirst();
        textOfTooManyOrBelowZero();
        textOfNone();
        textStartsAllOver();
        textWithAFault();
        textWithMostLines();
        faultOfTheLatestText();
        faultPlaces();
        namedByLetters();
        Check.end();
    }

    /** "A TEXT: { LINE ';' }." */
    private static void linesAndTheirEnds() {
        Check.fault("", 0, -1);
        Check.fault("take;", 0, -1);
        Check.fault("take;take;", 0, -1);
        Check.fault("take", 1, 4);
        Check.fault("take;take", 1, 9);
        Check.fault("take take;", 1, 5);
        Check.fault(";", 1, 0);
        Check.fault(";take;", 1, 0);
        Check.fault("take;;take;", 1, 5);
        Check.due("no LINE", Check.told("").text(0), 0);
        Check.due("one LINE", lines("take;"), 1);
        Check.due("two LINES", lines("take;row 1;"), 2);
    }

    private static int lines(String text) {
        return Check.text(new BeatQueues(), text);
    }

    /** "W: .. none of those of the language" */
    private static void wordsOfTheLanguageAreNoNames() {
        for (String word : LANGUAGE) {
            Check.fault("put " + word + " 1;", 1, 4);
            Check.fault("both " + word + " 1;", 1, 5);
            Check.fault("cancel " + word + ";", 1, 7);
            Check.fault("renew " + word + " 1;", 1, 6);
        }
        for (String word : NEARLY) {
            Check.fault("put " + word + " 1;cancel " + word + ";renew " + word + " 2;", 0, -1);
            Check.fault(word + " a 1;", 1, 0);
            Check.fault(word + ";", 1, 0);
        }
    }

    /** "W: one of 1 .. 6 letters"; "1 .. a word of more than 6 letters that isn't of the language, too" */
    private static void namesHaveOneToSixLetters() {
        for (int n = 1; n <= 26; n++) {
            String word = LETTERS.substring(0, n);
            Check.fault("put " + word + " 1;", n <= 6 ? 0 : 1, n <= 6 ? -1 : 4);
            Check.fault("take;" + word + ";", 1, 5);
        }
        Check.fault("put zzzzzz 1;", 0, -1);
        Check.fault("put zzzzzzz 1;", 1, 4);
        // of the language, though it has more than 6 letters
        Check.fault("buckets 1 1;", 0, -1);
        Check.fault("bucketss 1 1;", 1, 0);
    }

    /** "Words: small letters in a row"; "N: digits": no blank needs to stand between the two. */
    private static void wordsAndNumbersEndByThemselves() {
        BeatQueues q = Check.told("row3;put a7;both b8;renew a9;cancel b;seed5;levels2;buckets2 3;");
        Check.due("row", q.count(0), 3);
        Check.due("levels", q.count(1), 2);
        Check.due("buckets", q.count(8), 2);
        Check.due("deep", q.count(9), 3);
        q.run(1);
        Check.due("key", q.head(0, 0), 7);
        Check.fault("puta 1;", 1, 0);
        Check.fault("pu t a 1;", 1, 0);
        Check.fault("pu\nt a 1;", 1, 0);
        Check.fault("put a b 1;", 1, 6);
        Check.fault("put a 1 1;", 1, 8);
        Check.fault("row 1 6;", 1, 6);
        Check.fault("put 1a 1;", 1, 4);
        Check.fault("put a 1b;", 1, 7);
        Check.fault("take1;", 1, 4);
        Check.fault("1take;", 1, 0);
    }

    private static void numbersAreDigits() {
        Check.fault("put a 0;put a 00;put a 000000000000000000000000000;", 0, -1);
        Check.due("zeros ahead", headOf("put a 0000000000000000000000000999;"), 999);
        Check.due("as told", headOf("put a 10;"), 10);
        Check.fault("put a -1;", 1, 6);
        Check.fault("put a +1;", 1, 6);
        Check.fault("put a 1.0;", 1, 7);
        Check.fault("put a 1e2;", 1, 7);
        // they don't wrap around
        Check.fault("put a 4294967296;", 2, 6);
        Check.fault("put a 18446744073709551616;", 2, 6);
        Check.fault("put a " + "9".repeat(600) + ";", 2, 6);
        Check.fault("row 4294967297;", 2, 4);
        Check.fault("seed 2147483648;", 2, 5);
    }

    private static int headOf(String text) {
        BeatQueues q = Check.told(text);
        q.run(40);
        return q.head(0, 0);
    }

    /** "Blanks 10, 32." */
    private static void blanksAreTwo() {
        for (int sign = 0; sign < 256; sign++) {
            boolean isBlank = sign == 10 || sign == 32;
            Check.fault("take;" + (char) sign, isBlank ? 0 : 1, isBlank ? -1 : 5);
        }
        Check.fault("\n \n put \n a \n 1 \n ; \n ", 0, -1);
        Check.fault("put\na 1;cancel a;put b 1;cancel\nb;renew\n\na\n2;", 0, -1);
        Check.due("its letters alone", Check.told("put\nab 1;").named(Check.letters("ab")), 0);
        Check.fault("put\ta 1;", 1, 3);
        Check.fault("take\r;", 1, 4);
        Check.fault("put a\u000b1;", 1, 5);
        Check.fault("put a\u00a01;", 1, 5);
        // beside the letters and the digits
        Check.fault("put a` 1;", 1, 5);
        Check.fault("put a{ 1;", 1, 5);
        Check.fault("put A 1;", 1, 4);
        Check.fault("put aZ 1;", 1, 5);
        Check.fault("put a 1/;", 1, 7);
        Check.fault("put a 1:", 1, 7);
        Check.fault("put az 19;", 0, -1);
    }

    /** "row: 1 .. 16 CELLS (8). levels: 1 .. 4 (3). buckets: 1 .. 8 BUCKETS, 1 .. 8 DEEP (4, 4). seed: 0 .. 99999 (0)." */
    private static void settingsAndTheirBounds() {
        setting("row ", ";", 1, 16, 0);
        setting("levels ", ";", 1, 4, 1);
        setting("buckets ", " 1;", 1, 8, 8);
        setting("buckets 1 ", ";", 1, 8, 9);
        for (int seed : new int[] {0, 1, 99998, 99999}) {
            BeatQueues q = Check.told("seed " + seed + ";");
            for (int what = 0; what < 4; what++) {
                Check.due("seed " + seed, q.chance(-1, 60, 3, what), q.chance(seed, 60, 3, what));
            }
        }
        Check.fault("seed 100000;", 2, 5);
        Check.fault("seed 99999;", 0, -1);
        // of both numbers the first one that is beyond
        Check.fault("buckets 9 9;", 2, 8);
        Check.fault("buckets 0 9;", 2, 8);
        Check.fault("buckets 8 9;", 2, 10);
        Check.fault("buckets 8 0;", 2, 10);
    }

    private static void setting(String ahead, String behind, int least, int most, int what) {
        for (int n = 0; n <= 120; n++) {
            boolean isOne = n >= least && n <= most;
            Check.fault(ahead + n + behind, isOne ? 0 : 2, isOne ? -1 : ahead.length());
            if (isOne) {
                Check.due(ahead + n + behind, Check.told(ahead + n + behind).count(what), n);
            }
        }
    }

    private static void settingsThatAreNotTold() {
        BeatQueues q = Check.told("row 5;levels 2;buckets 3 2;seed 9;put a 1;");
        for (int i = 0; i < 3; i++) {
            Check.due("a text without them", Check.text(q, "take;"), 1);
            usualSettings(q);
        }
        for (int i = 0; i < 3; i++) {
            Check.due("a FAULT behind them", Check.text(q, "row 5;levels 2;buckets 3 2;seed 9;put a 1;put"), -1);
            Check.due("a text without them", Check.text(q, "take;"), 1);
            usualSettings(q);
        }
        Check.due("cells", q.kept(0, 7, 0), -2);
        Check.due("cells", q.kept(0, 8, 0), -1);
        Check.due("nodes", q.free(7), 1);
        Check.due("nodes", q.free(8), -1);
        Check.due("places", q.kept(3, 15, 0), -2);
        Check.due("places", q.kept(3, 16, 0), -1);
    }

    private static void usualSettings(BeatQueues q) {
        Check.due("row", q.count(0), 8);
        Check.due("levels", q.count(1), 3);
        Check.due("buckets", q.count(8), 4);
        Check.due("deep", q.count(9), 4);
        Check.due("LINES of the PLAN", q.count(2), 1);
        Check.due("NAMES", q.count(5), 0);
        Check.due("no such NAME", q.named(Check.letters("a")), -1);
        for (int what = 0; what < 4; what++) {
            Check.due("seed", q.chance(-1, 60, 3, what), q.chance(0, 60, 3, what));
        }
    }

    /** "The other LINES, at most 40, are the PLAN"; "2 .. a 41st LINE of the PLAN (at its word)" */
    private static void planOfFortyLines() {
        String[] acts = {"put a 1;", "take;", "both a 1;", "wait;", "cancel a;", "renew a 1;"};
        for (String act : acts) {
            String forty = "put a 1;" + act.repeat(39);
            Check.fault(forty, 0, -1);
            Check.fault(forty + "row 3;seed 3;levels 3;buckets 3 3;", 0, -1);
            Check.due("40 of the PLAN", Check.told(forty).count(2), 40);
            for (String last : acts) {
                Check.fault(forty + last, 2, forty.length());
            }
            Check.fault(forty + "row 3; " + act, 2, forty.length() + 7);
        }
        String forty = "take;".repeat(40);
        // what the 41st one has behind its word doesn't matter
        Check.fault(forty + "put", 2, 200);
        Check.fault(forty + "put row 1;", 2, 200);
        Check.fault(forty + "cancel z;", 2, 200);
        // what can't begin a LINE is none
        Check.fault(forty + "puts a 1;", 1, 200);
        Check.fault(forty + ";", 1, 200);
        Check.fault(forty + "5", 1, 200);
        // settings are none of the PLAN
        Check.due("39 of the PLAN", Check.told("row 1;" + "take;".repeat(39)).count(2), 39);
    }

    /** "put, both, renew: a NAME, a KEY 0 .. 999" */
    private static void keysAndTheirBounds() {
        for (String word : new String[] {"put", "both", "renew"}) {
            String ahead = "put a 5;" + word + " a ";
            for (int key : new int[] {0, 1, 500, 998, 999}) {
                BeatQueues q = Check.told(ahead + key + ";");
                q.run(2);
                Check.due(word + " of " + key, q.kept(0, word.equals("put") && key > 4 ? 1 : 0, 0), key);
            }
            for (String key : new String[] {"1000", "1001", "9999", "10000", "00001000", "99999999999999999999"}) {
                Check.fault(ahead + key + ";", 2, ahead.length());
            }
        }
    }

    /** "NAMES are numbered from 0 on as they are told first" */
    private static void namesAndTheirNumbers() {
        BeatQueues q = Check.told("row 16;put c 10;both b 20;put c 30;cancel c;renew b 40;put a 50;");
        Check.due("c", q.named(Check.letters("c")), 0);
        Check.due("b", q.named(Check.letters("b")), 1);
        Check.due("a", q.named(Check.letters("a")), 2);
        Check.due("three", q.count(5), 3);
        q.run(3);
        Check.due("b's", q.head(0, 1), 1);
        Check.due("c's", q.kept(0, 1, 1), 0);
        q.run(3);
        Check.row(q, "behind the PLAN", 0, 0, 40, 50, -2);
        Check.due("b's", q.kept(0, 0, 1), 1);
        Check.due("a's", q.kept(0, 1, 1), 2);
    }

    /** "24 at most"; "2 .. a 25th NAME" */
    private static void twentyFourNames() {
        String names = allNames();
        BeatQueues q = Check.told(names);
        Check.due("24", q.count(5), 24);
        for (int i = 0; i < 24; i++) {
            Check.due("number " + i, q.named(Check.letters(LETTERS.substring(i, i + 1))), i);
        }
        q.run(24);
        Check.due("the last one is on its way in no MACHINE", q.holds(0, 23) + q.holds(2, 23) + q.holds(3, 23), 0);
        Check.due("but in the one that hands on", q.place(1, 23), -3);
        int end = names.length();
        Check.fault(names + "put a 1;both x 2;cancel m;renew n 1;", 0, -1);
        Check.fault(names + "put y 1;", 2, end + 4);
        Check.fault(names + "both y 1;", 2, end + 5);
        Check.fault(names + "put aa 1000;", 2, end + 4);
        Check.fault(names.substring(0, end - 8) + "put y 1;", 0, -1);
        Check.fault(names.substring(0, end - 8) + "put y 1;put x 1;", 2, end + 4);
    }

    private static String allNames() {
        StringBuilder names = new StringBuilder();
        for (int i = 0; i < 24; i++) {
            names.append("put ").append(LETTERS.charAt(i)).append(" 1;");
        }
        return names.toString();
    }

    /** "1 .. (the length, if more must come)": every beginning of a LINE, by what it lacks. */
    private static void moreMustCome() {
        beginnings("buckets 1 2;", 7);
        beginnings("row 3;", 3);
        beginnings("levels 3;", 6);
        beginnings("seed 3;", 4);
        beginnings("put ab 12;", 3);
        beginnings("both ab 12;", 4);
        beginnings("take ;", 4);
        beginnings("wait\n;", 4);
        String told = "put ab 1;";
        for (String line : new String[] {"cancel ", "renew "}) {
            for (int n = 0; n <= 2; n++) {
                String text = told + line + "ab ".substring(0, n);
                // the first letter alone is a NAME, but one that isn't told
                boolean isOther = n == 1;
                Check.fault(text, isOther ? 4 : 1, isOther ? text.length() - 1 : text.length());
            }
        }
        Check.fault(told + "renew ab ", 1, told.length() + 9);
        Check.fault(told + "renew ab 5", 1, told.length() + 10);
        Check.fault("put a 1 \n\n ", 1, 11);
    }

    private static void beginnings(String line, int wordLength) {
        for (int n = 1; n < line.length(); n++) {
            Check.fault(line.substring(0, n), 1, n < wordLength ? 0 : n);
            Check.fault("take;" + line.substring(0, n), 1, n < wordLength ? 5 : 5 + n);
        }
        Check.fault(line, 0, -1);
    }

    /** "1 a TOKEN that is none .. or can't stand there" */
    private static void cannotStandThere() {
        Check.fault("row;", 1, 3);
        Check.fault("row a;", 1, 4);
        Check.fault("row row;", 1, 4);
        Check.fault("levels;", 1, 6);
        Check.fault("levels 2 2;", 1, 9);
        Check.fault("buckets;", 1, 7);
        Check.fault("buckets 2;", 1, 9);
        Check.fault("buckets 2 2 2;", 1, 12);
        Check.fault("buckets 2 a;", 1, 10);
        Check.fault("seed;", 1, 4);
        Check.fault("seed 1 1;", 1, 7);
        Check.fault("put;", 1, 3);
        Check.fault("put 1;", 1, 4);
        Check.fault("put a;", 1, 5);
        Check.fault("put a a;", 1, 6);
        Check.fault("put a 1 take;", 1, 8);
        Check.fault("take 1;", 1, 5);
        Check.fault("take a;", 1, 5);
        Check.fault("both;", 1, 4);
        Check.fault("both a;", 1, 6);
        Check.fault("wait a;", 1, 5);
        Check.fault("wait 1;", 1, 5);
        Check.fault("cancel;", 1, 6);
        Check.fault("cancel 1;", 1, 7);
        Check.fault("put a 1;cancel a 1;", 1, 17);
        Check.fault("put a 1;renew;", 1, 13);
        Check.fault("put a 1;renew a;", 1, 15);
        Check.fault("put a 1;renew a a;", 1, 16);
        Check.fault("put a 1;renew a 1 1;", 1, 18);
    }

    /** "3 told already: row, levels, buckets, seed (at the word)." */
    private static void toldAlready() {
        String[] settings = {"row 8;", "levels 3;", "buckets 4 4;", "seed 0;"};
        StringBuilder all = new StringBuilder();
        for (String setting : settings) {
            Check.fault(setting + setting, 3, setting.length());
            Check.fault(setting + "take;\n" + setting, 3, setting.length() + 6);
            Check.fault(setting + setting.substring(0, setting.indexOf(' ')), 3, setting.length());
            all.append(setting);
        }
        Check.fault(all.toString(), 0, -1);
        for (String setting : settings) {
            Check.fault(all + setting, 3, all.length());
        }
        // not by a text ahead
        BeatQueues q = Check.told("row 8;");
        Check.due("another text", Check.text(q, "row 7;"), 1);
        Check.text(q, "row 6;row 5;");
        Check.due("behind a FAULT", Check.text(q, "row 4;"), 1);
        Check.due("row", q.count(0), 4);
    }

    /** "4 cancel, renew of a NAME that isn't told ahead (at W)." */
    private static void notToldAhead() {
        Check.fault("cancel a;", 4, 7);
        Check.fault("renew a 1;", 4, 6);
        Check.fault("put a 1;cancel b;", 4, 15);
        Check.fault("put a 1;renew b 1;", 4, 14);
        Check.fault("cancel a;put a 1;", 4, 7);
        Check.fault("put ab 1;cancel a;", 4, 16);
        Check.fault("put a 1;cancel ab;", 4, 15);
        Check.fault("both a 1;cancel a;cancel a;renew a 1;renew a 2;", 0, -1);
        // not by a text ahead
        BeatQueues q = Check.told("put a 1;");
        Check.due("another text", Check.text(q, "cancel a;"), -1);
        Check.due("kind", q.fault(0), 4);
        Check.due("place", q.fault(1), 7);
    }

    /** "FAULTS, the first along the text" */
    private static void firstAlongTheText() {
        Check.fault("row 17;row 1;", 2, 4);
        Check.fault("row 1;row 17;", 3, 6);
        Check.fault("row 1;row;", 3, 6);
        Check.fault("cancel a,", 4, 7);
        Check.fault("renew a 1000;", 4, 6);
        Check.fault("renew a;", 4, 6);
        Check.fault("put a 1000", 2, 6);
        Check.fault("put a 1000;cancel b;", 2, 6);
        Check.fault("cancel b;put a 1000;", 4, 7);
        Check.fault("put A 1000;", 1, 4);
        Check.fault("take,row 17;", 1, 4);
        Check.fault("row 17,", 2, 4);
        Check.fault("buckets 9;", 2, 8);
        Check.fault("take;".repeat(41) + "row 0;", 2, 200);
        Check.fault("row 0;" + "take;".repeat(41), 2, 4);
    }

    /** "(of one place the least)": a NAME that isn't told ahead is a 25th NAME, too. */
    private static void ofOnePlaceTheLeast() {
        String names = allNames();
        int end = names.length();
        Check.fault(names + "cancel y;", 2, end + 7);
        Check.fault(names + "renew y 1;", 2, end + 6);
        Check.fault(names + "cancel abcdefg;", 1, end + 7);
        Check.fault(names + "renew put 1;", 1, end + 6);
        Check.fault(names.substring(0, end - 8) + "cancel y;", 4, end - 1);
        Check.fault("cancel abcdefg;", 1, 7);
        Check.fault("take 1000;", 1, 5);
    }

    /** Promise 1: "All as it is without LINES; an empty TAPE." */
    private static void aNewObject() {
        BeatQueues fresh = new BeatQueues();
        BeatQueues without = Check.told("");
        Check.holds("as it is without LINES", TrialsTest.look(fresh).equals(TrialsTest.look(without)));
        Check.due("the TAPE", fresh.count(7), 0);
        Check.due("a text of the TAPE", fresh.text(1), -2);
        Check.due("its seed", fresh.chance(-1, 60, 3, 3), fresh.chance(0, 60, 3, 3));
        Check.due("no NAME", fresh.named(Check.letters("a")), -1);
        Check.due("no PLAN", fresh.run(40), 0);
        Check.due("no FAULT", fresh.fault(0), 0);
        Check.due("no place", fresh.fault(1), -1);
        Check.due("first BEAT", fresh.put(1, 0), 1);
        Check.due("its STAMP", fresh.head(0, 2), 0);
        Check.due("one does not know of another", new BeatQueues().count(4), 0);
    }

    /** Promise 2: "how many it has; NONE, and none come, if it would have more than 700." */
    private static void feedUpToSevenHundred() {
        BeatQueues q = new BeatQueues();
        for (int i = 1; i <= 35; i++) {
            // "take;take;take;take;"
            Check.due("feed", q.feed(0x74616b65, 0x3b74616b, 0x653b7461, 0x6b653b74, 0x616b653b), 20 * i);
        }
        for (int i = 0; i < 3; i++) {
            Check.due("more than 700", q.feed(0x20202020, 0x20202020, 0x20202020, 0x20202020, 0x20202020), -1);
            Check.due("none come", q.count(7), 700);
        }
        Check.due("a text of too many", q.text(701), -2);
        Check.due("it stays full", q.feed(0, 0, 0, 0, 0), -1);
        Check.due("all of it", q.text(700), -1);
        Check.due("a 41st LINE", q.fault(1), 200);
        Check.due("it is empty then", q.feed(0, 0, 0, 0, 0), 20);
        Check.due("and goes on", q.feed(0, 0, 0, 0, 0), 40);
    }

    /** Promise 2: "Twenty bytes come behind the TAPE, four of each number, the highest first" */
    private static void feedHighestByteFirst() {
        BeatQueues q = new BeatQueues();
        // "put abcdef 12;put b " and "3;"
        q.feed(0x70757420, 0x61626364, 0x65662031, 0x323b7075, 0x74206220);
        q.feed(0x333b0000, 0, 0, 0, 0);
        Check.due("two LINES", q.text(22), 2);
        Check.due("its letters in order", q.named(Check.letters("abcdef")), 0);
        q.run(1);
        Check.due("its digits in order", q.head(0, 0), 12);
        q.run(1);
        Check.due("those that came behind", q.head(0, 0), 3);
        // a number below 0 has a byte above 127 first
        q.feed(0x80000000, 0, 0, 0, 0xffffffff);
        Check.due("no sign of the language", q.text(20), -1);
        Check.due("at the first byte", q.fault(1), 0);
        q.feed(0x20202020, 0x20202020, 0x20202020, 0x20202020, 0x202020ff);
        Check.due("the last byte", q.text(20), -1);
        Check.due("at the last byte", q.fault(1), 19);
    }

    /** Promise 3: "-2, and the TAPE stays: there are not so many, n is below 0." */
    private static void textOfTooManyOrBelowZero() {
        BeatQueues q = Check.told("row 3;put a 5;put b 3;");
        q.run(2);
        q.keep();
        Check.feed(q, "take;".getBytes());
        String before = TrialsTest.look(q);
        for (int n : new int[] {-1, -2, -20, Integer.MIN_VALUE, 21, 22, 700, 701, Integer.MAX_VALUE}) {
            Check.due("text(" + n + ")", q.text(n), -2);
            Check.due("the TAPE stays", q.count(7), 20);
        }
        Check.holds("all stays", before.equals(TrialsTest.look(q)));
        Check.due("what can be undone", q.count(6), 2);
        Check.due("the IMAGE", q.back(), 2);
        Check.due("it can be read yet", q.text(5), 1);
    }

    /** Promise 3: no byte is a TEXT without LINES. */
    private static void textOfNone() {
        BeatQueues q = Check.told("row 3;put a 5;");
        q.run(1);
        Check.due("of an empty TAPE", q.text(0), 0);
        Check.due("row", q.count(0), 8);
        Check.due("BEATS", q.count(4), 0);
        Check.feed(q, "take;".getBytes());
        Check.due("of one that isn't empty", q.text(0), 0);
        Check.due("it is empty then", q.count(7), 0);
        Check.due("no PLAN", q.count(2), 0);
    }

    /** Promise 3: "(MACHINES empty, BEAT 0, nothing counted, the PLAN at its beginning, nothing to undo, no IMAGE)" */
    private static void textStartsAllOver() {
        String text = "row 1;levels 1;buckets 1 1;seed 3;put a 5;put b 3;cancel b;take;take;both a 9;renew a 1;";
        BeatQueues q = Check.told(text);
        String fresh = TrialsTest.look(q);
        q.run(40);
        q.put(900, 31);
        q.keep();
        Check.due("the same text again", Check.text(q, text), 11);
        Check.holds("as behind the first one", fresh.equals(TrialsTest.look(q)));
        for (int m = 0; m < 4; m++) {
            for (int what = 0; what < 7; what++) {
                Check.due("nothing counted " + m + "," + what, q.of(m, what), 0);
            }
            Check.due("nothing waited " + m, q.waited(m, 0) + q.waited(m, 1), 0);
            Check.due("nothing is out " + m, Check.out(q, m, 0), -2);
            Check.due("no log " + m, q.log(m, 0, 0), -2);
        }
        Check.due("BEAT 0", q.count(4), 0);
        Check.due("the PLAN at its beginning", q.count(3), 0);
        Check.due("nothing to undo", q.undo(), -1);
        Check.due("no IMAGE", q.back(), -1);
        Check.due("FREE", q.free(1), 1);
        Check.due("STAMPS from 0 on", q.put(4, 0), 1);
        Check.due("STAMPS from 0 on", q.head(3, 2), 0);
    }

    /** Promise 3: "NONE with a FAULT, all else stays" */
    private static void textWithAFault() {
        BeatQueues q = Check.told("row 3;levels 2;buckets 3 3;seed 77;put a 5;put b 3;take;put c 9;");
        q.run(2);
        q.keep();
        q.run(1);
        String before = TrialsTest.look(q);
        int chance = q.chance(-1, 60, 3, 3);
        String[] texts = {"row 4;levels 4;buckets 8 8;seed 1;put z 9;take", "row 4;row 4;", "seed 100000;", "cancel a;",
            ";"};
        for (String text : texts) {
            Check.due("a FAULT: " + text, Check.text(q, text), -1);
            Check.due("the TAPE is empty", q.count(7), 0);
            Check.holds("all else stays", before.equals(TrialsTest.look(q)));
            Check.due("the NAMES", q.named(Check.letters("b")), 1);
            Check.due("none of the text's", q.named(Check.letters("z")), -1);
            Check.due("the seed", q.chance(-1, 60, 3, 3), chance);
        }
        Check.due("the PLAN goes on", q.run(40), 1);
        Check.due("with its NAMES", q.kept(0, 1, 1), 2);
        Check.due("what can be undone", q.undo(), 3);
        Check.due("the IMAGE", q.back(), 2);
    }

    /** Promise 3: "how many LINES": all of them, 40 of the PLAN and the four others at most. */
    private static void textWithMostLines() {
        BeatQueues q = new BeatQueues();
        Check.due("44", Check.text(q, "row 8;levels 3;buckets 4 4;seed 0;" + "take;".repeat(40)), 44);
        Check.due("40 of the PLAN", q.count(2), 40);
        Check.due("four", Check.text(q, "row 8;levels 3;buckets 4 4;seed 0;"), 4);
        Check.due("none of the PLAN", q.count(2), 0);
        // the longest LINES fill the TAPE: 38 of 18 bytes, and 16 blanks
        Check.due("38", Check.text(q, "both abcdef 00999;".repeat(38) + " ".repeat(16)), 38);
    }

    /** Promise 4: "Of the latest text() that was not -2, what 0: its FAULT (0), 1: its place (NONE without)." */
    private static void faultOfTheLatestText() {
        BeatQueues q = new BeatQueues();
        Check.due("no text() was", q.fault(0), 0);
        Check.due("no text() was", q.fault(1), -1);
        String[] texts = {"take", "row 0;", "row 1;row 1;", "cancel a;"};
        int[] places = {4, 4, 6, 7};
        for (int i = 0; i < 4; i++) {
            Check.text(q, texts[i]);
            Check.due("kind", q.fault(0), i + 1);
            Check.due("place", q.fault(1), places[i]);
            q.text(-1);
            q.text(1);
            q.put(1, 1);
            q.undo();
            q.feed(0, 0, 0, 0, 0);
            Check.due("kind stays", q.fault(0), i + 1);
            Check.due("place stays", q.fault(1), places[i]);
            q.text(0);
            Check.due("one without", q.fault(0), 0);
            Check.due("one without", q.fault(1), -1);
        }
        for (int what : new int[] {-1, 2, 3, Integer.MIN_VALUE, Integer.MAX_VALUE}) {
            Check.due("another what", q.fault(what), -1);
            Check.text(q, "take");
            Check.due("another what, with a FAULT", q.fault(what), -1);
            q.text(0);
        }
    }

    /** Promise 4: the place of the first byte, and of what is behind the last one. */
    private static void faultPlaces() {
        Check.fault("!", 1, 0);
        String full = "take;".repeat(40) + " ".repeat(497) + "row";
        Check.due("its length", full.length(), 700);
        Check.fault(full, 1, 700);
        Check.fault(" ".repeat(699) + "!", 1, 699);
        Check.fault(" ".repeat(700), 0, -1);
        // only the first n bytes are the TEXT
        BeatQueues q = new BeatQueues();
        Check.feed(q, "take;wait!          ".getBytes());
        Check.due("ahead of it", q.text(5), 1);
        for (int n = 6; n <= 8; n++) {
            Check.feed(q, "take;wait!          ".getBytes());
            Check.due("cut in a word", q.text(n), -1);
            Check.due("cut in a word", q.fault(1), 5);
        }
        Check.feed(q, "row 16;             ".getBytes());
        Check.due("cut in a number", q.text(5), -1);
        Check.due("cut in a number", q.fault(1), 5);
        Check.feed(q, "take;wait!          ".getBytes());
        Check.due("cut behind a word", q.text(9), -1);
        Check.due("cut behind a word", q.fault(1), 9);
    }

    /** Promise 5: "by its letters, 5 bits each (a is 1; the first one highest of six, 0 behind the last one)" */
    private static void namedByLetters() {
        BeatQueues q = Check.told("put a 1;put z 1;put ab 1;put abc 1;put abcd 1;put abcde 1;put abcdef 1;put zzzzzz 1;");
        int[] letters = {1 << 25, 26 << 25, 1 << 25 | 2 << 20, 1 << 25 | 2 << 20 | 3 << 15,
            1 << 25 | 2 << 20 | 3 << 15 | 4 << 10, 1 << 25 | 2 << 20 | 3 << 15 | 4 << 10 | 5 << 5,
            1 << 25 | 2 << 20 | 3 << 15 | 4 << 10 | 5 << 5 | 6,
            26 << 25 | 26 << 20 | 26 << 15 | 26 << 10 | 26 << 5 | 26};
        for (int i = 0; i < letters.length; i++) {
            Check.due("named", q.named(letters[i]), i);
            Check.due("with a bit more", q.named(letters[i] | 1 << 30), -1);
            Check.due("with the sign", q.named(letters[i] | 1 << 31), -1);
        }
        int[] none = {0, -1, 1, 26, 1 << 20, 2 << 25, 27 << 25, 31 << 25, 1 << 25 | 1, 1 << 25 | 2 << 15,
            1 << 25 | 2 << 20 | 3 << 15 | 4 << 10 | 5 << 5 | 7, Integer.MIN_VALUE, Integer.MAX_VALUE};
        for (int code : none) {
            Check.due("there is none such: " + code, q.named(code), -1);
        }
        Check.text(q, "put b 1;put a 1");
        Check.due("a FAULT leaves them", q.named(1 << 25), 0);
        Check.text(q, "put b 1;put a 1;");
        Check.due("of the latest text", q.named(1 << 25), 1);
        Check.due("not of one ahead", q.named(26 << 25), -1);
    }
}
