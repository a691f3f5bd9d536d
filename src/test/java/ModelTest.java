import java.nio.ByteBuffer;
import java.nio.charset.StandardCharsets;
import java.util.Arrays;
import java.util.NoSuchElementException;
import java.util.Random;

/** Runs of chance calls on the class and on the model of the document, answer held against answer. */
public final class ModelTest {
    private static final String[] NAMES = {"a", "b", "c", "dd", "abcdef", "zzzzzz", "rows", "pu", "q"};
    private static final String[] BAD = {"Z", ".", "\t", "\u00ff", "\u0000", "abcdefg", "8", ";", "row", "put", "1000", "17",
        "buckets 1", "cancel zzz", "renew yyy 3", "999999999999999999999", "levels 4", "seed 100000", "renew", ""};

    private final Random random;
    private BeatQueues real = new BeatQueues();
    private Model model = new Model();
    private final StringBuilder story = new StringBuilder();
    private final int keys;
    private final int names;

    private ModelTest(long seed) {
        random = new Random(seed);
        story.append("seed ").append(seed).append(':');
        keys = new int[] {1000, 50, 10, 3}[random.nextInt(4)];
        names = new int[] {32, 6, 2}[random.nextInt(3)];
    }

    public static void main(String[] args) {
        int runs = args.length > 1 ? Integer.parseInt(args[1]) : 4000;
        for (int seed = 0; seed < runs; seed++) {
            new ModelTest(seed).run();
        }
        Check.end();
    }

    private void run() {
        int calls = 0;
        while (calls < 500) {
            int which = random.nextInt(100);
            if (which == 0 || calls == 0 && random.nextInt(3) > 0) {
                calls += tell();
            } else if (which < 55) {
                act();
                calls++;
            } else {
                ask(random.nextInt(28));
                calls++;
            }
        }
        askAll();
    }

    private void due(String call, int got, int want) {
        story.append(' ').append(call).append('=').append(want);
        Check.due(got == want ? call : story.toString(), got, want);
    }

    private int below(int n) {
        return random.nextInt(n);
    }

    /** Mostly within 0 .. most, now and then beside it. */
    private int about(int most) {
        int r = below(25);
        if (r == 0) {
            return -1 - below(3);
        }
        if (r == 1) {
            return most + 1 + below(2);
        }
        if (r == 2 && below(4) == 0) {
            return random.nextInt();
        }
        return below(most + 1);
    }

    private String number(int most) {
        int r = below(60);
        return r == 0 ? "00" + below(most + 1) : r == 1 ? "" + (most + 1) : "" + below(most + 1);
    }

    private String blank() {
        return below(5) == 0 ? "\n " : " ";
    }

    private String newName() {
        if (below(4) > 0) {
            return NAMES[below(NAMES.length)];
        }
        return "" + (char) ('a' + below(26));
    }

    private String planLine(String known) {
        switch (below(8)) {
            case 0: case 1: case 2:
                return "put" + blank() + newName() + blank() + number(keys - 1);
            case 3: case 4:
                return "take";
            case 5:
                return "both" + blank() + newName() + (below(2) == 0 ? "" : " ") + number(keys - 1);
            case 6:
                return "wait" + blank();
            default:
                return below(2) == 0 ? "cancel " + known : "renew " + known + " " + number(keys - 1);
        }
    }

    private String someText() {
        StringBuilder s = new StringBuilder();
        if (below(2) == 0) {
            s.append("row ").append(1 + below(16)).append(';');
        }
        if (below(2) == 0) {
            s.append("levels ").append(1 + below(4)).append(" ;");
        }
        if (below(2) == 0) {
            s.append("buckets ").append(1 + below(8)).append(' ').append(1 + below(8)).append(';');
        }
        if (below(3) == 0) {
            s.append("seed ").append(number(99999)).append(';');
        }
        String known = newName();
        s.append("put ").append(known).append(' ').append(below(keys)).append(';');
        int lines = below(3) == 0 ? 36 + below(6) : below(30);
        for (int i = 0; i < lines; i++) {
            s.append(planLine(known)).append(';').append(below(6) == 0 ? "\n" : "");
            if (below(120) == 0) {
                s.append(BAD[below(BAD.length)]).append(below(2) == 0 ? ";" : "");
            }
        }
        if (below(12) == 0) {
            s.insert(below(s.length()), BAD[below(BAD.length)]);
        }
        return s.toString();
    }

    private String manyNames() {
        StringBuilder s = new StringBuilder();
        int told = 22 + below(4);
        for (int i = 0; i < told; i++) {
            s.append("put ").append((char) ('a' + i)).append("x ").append(i).append(';');
        }
        String[] last = {"put a 1;", "cancel q;", "renew q 1;", "cancel ax;", "both zz 5;", "put abcdefg 1;"};
        return s.append(last[below(last.length)]).toString();
    }

    private int tell() {
        String text = below(40) == 0 ? manyNames() : someText();
        byte[] bytes = text.getBytes(StandardCharsets.ISO_8859_1);
        int calls = 1;
        for (int at = 0; at < bytes.length && at < 700; at += 20) {
            byte[] part = new byte[20];
            Arrays.fill(part, (byte) ' ');
            System.arraycopy(bytes, at, part, 0, Math.min(20, bytes.length - at));
            ByteBuffer b = ByteBuffer.wrap(part);
            int[] x = {b.getInt(), b.getInt(), b.getInt(), b.getInt(), b.getInt()};
            due("feed", real.feed(x[0], x[1], x[2], x[3], x[4]), model.feed(x[0], x[1], x[2], x[3], x[4]));
            calls++;
        }
        story.append(" \"").append(text).append('"');
        int n = bytes.length - (below(30) == 0 ? below(bytes.length) : 0);
        due("text(" + n + ")", real.text(n), model.text(n));
        due("fault(0)", real.fault(0), model.fault(0));
        due("fault(1)", real.fault(1), model.fault(1));
        return calls + 2;
    }

    private void act() {
        int key = below(30) == 0 ? about(999) : below(keys);
        int name = below(30) == 0 ? about(31) : below(names);
        switch (below(24)) {
            case 0: case 1: case 2: case 3: case 4: case 5: case 6:
                due("put(" + key + "," + name + ")", real.put(key, name), model.put(key, name));
                break;
            case 7: case 8: case 9: case 10:
                due("take()", real.take(), model.take());
                break;
            case 11: case 12: case 13:
                due("both(" + key + "," + name + ")", real.both(key, name), model.both(key, name));
                break;
            case 14:
                due("pause()", real.pause(), model.pause());
                break;
            case 15: case 16:
                due("cancel(" + name + ")", real.cancel(name), model.cancel(name));
                break;
            case 17: case 18:
                due("renew(" + key + "," + name + ")", real.renew(key, name), model.renew(key, name));
                break;
            case 19: case 20: case 21:
                int n = below(8) == 0 ? about(40) : 1 + below(3);
                due("run(" + n + ")", real.run(n), model.run(n));
                break;
            case 22:
                due("undo()", real.undo(), model.undo());
                break;
            default:
                if (below(2) == 0) {
                    due("keep()", real.keep(), model.keep());
                } else {
                    due("back()", real.back(), model.back());
                }
                break;
        }
    }

    private static int outOf(Model m, int machine, int what) {
        try {
            return m.out(machine, what);
        } catch (IndexOutOfBoundsException e) {
            return 1001;
        } catch (NoSuchElementException e) {
            return 1002;
        }
    }

    private void ask(int which) {
        int m = about(3);
        int o = about(3);
        int w = about(3);
        int k = about(8);
        int name = below(2) == 0 ? below(names) : about(31);
        int key = below(2) == 0 ? below(keys) : about(999);
        switch (which) {
            case 0: due("out " + m + "," + w, Check.out(real, m, w), outOf(model, m, w)); break;
            case 1: due("head " + m + "," + w, real.head(m, w), model.head(m, w)); break;
            case 2:
                int i = about(20);
                due("kept " + m + "," + i + "," + w, real.kept(m, i, w), model.kept(m, i, w));
                break;
            case 3: due("handed " + k + "," + w, real.handed(k, w), model.handed(k, w)); break;
            case 4:
                int what = about(4);
                due("token " + o + "," + what, real.token(o, what), model.token(o, what));
                break;
            case 5: due("free " + k, real.free(k), model.free(k)); break;
            case 6:
                int of = about(7);
                due("of " + m + "," + of, real.of(m, of), model.of(m, of));
                break;
            case 7: due("holds " + m + "," + name, real.holds(m, name), model.holds(m, name)); break;
            case 8: due("place " + m + "," + name, real.place(m, name), model.place(m, name)); break;
            case 9: due("waited " + m + "," + w, real.waited(m, w), model.waited(m, w)); break;
            case 10: due("settle " + m, real.settle(m), model.settle(m)); break;
            case 11: due("drained " + m + "," + k + "," + w, real.drained(m, k, w), model.drained(m, k, w)); break;
            case 12: due("drains " + m, real.drains(m), model.drains(m)); break;
            case 13: due("unlike " + m + "," + o, real.unlike(m, o), model.unlike(m, o)); break;
            case 14: due("turn " + m + "," + name, real.turn(m, name), model.turn(m, name)); break;
            case 15: due("apart " + m, real.apart(m), model.apart(m)); break;
            case 16: due("isLeast " + m, real.isLeast(m), model.isLeast(m)); break;
            case 17:
                int n = about(40);
                due("ahead " + n + "," + m + "," + w, real.ahead(n, m, w), model.ahead(n, m, w));
                break;
            case 18:
                int beats = about(40);
                due("differs " + beats + "," + m + "," + o, real.differs(beats, m, o), model.differs(beats, m, o));
                break;
            case 19: due("leastRow " + m, real.leastRow(m), model.leastRow(m)); break;
            case 20: due("leastLevels", real.leastLevels(), model.leastLevels()); break;
            case 21: due("leastDeep", real.leastDeep(), model.leastDeep()); break;
            case 22: due("swaps " + m, real.swaps(m), model.swaps(m)); break;
            case 23: due("lands " + m + "," + key, real.lands(m, key), model.lands(m, key)); break;
            case 24:
                int back = about(21);
                due("log " + m + "," + back + "," + w, real.log(m, back, w), model.log(m, back, w));
                break;
            case 25:
                int seed = below(3) == 0 ? -1 : below(2) == 0 ? random.nextInt() : random.nextInt() & 0x7fffffff;
                int tries = about(60);
                due("chance " + seed + "," + tries + "," + m + "," + w, real.chance(seed, tries, m, w),
                        model.chance(seed, tries, m, w));
                break;
            case 26:
                int letters = Check.letters(newName());
                due("named " + letters, real.named(letters), model.named(letters));
                break;
            default:
                int of9 = about(9);
                due("count " + of9, real.count(of9), model.count(of9));
                break;
        }
    }

    /** The whole state, seen through every call that shows a piece of it. */
    private void askAll() {
        for (int m = 0; m < 4; m++) {
            for (int w = 0; w < 8; w++) {
                due("of", real.of(m, w), model.of(m, w));
            }
            for (int i = -1; i < 66; i++) {
                for (int w = 0; w < 4; w++) {
                    due("kept", real.kept(m, i, w), model.kept(m, i, w));
                }
            }
            for (int k = 0; k < 22; k++) {
                for (int w = 0; w < 4; w++) {
                    due("log", real.log(m, k, w), model.log(m, k, w));
                }
            }
            for (int name = 0; name < 32; name++) {
                due("holds", real.holds(m, name), model.holds(m, name));
                due("place", real.place(m, name), model.place(m, name));
                due("turn", real.turn(m, name), model.turn(m, name));
            }
        }
        for (int i = 0; i < 17; i++) {
            due("free", real.free(i), model.free(i));
            for (int w = 0; w < 5; w++) {
                due("handed", real.handed(i, w), model.handed(i, w));
                due("token", real.token(i, w), model.token(i, w));
            }
        }
        for (int w = -1; w < 11; w++) {
            due("count", real.count(w), model.count(w));
            due("fault", real.fault(w), model.fault(w));
        }
    }
}
