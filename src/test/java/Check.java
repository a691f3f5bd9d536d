import java.nio.charset.StandardCharsets;
import java.util.Arrays;
import java.util.NoSuchElementException;

/** What the tests share: comparing, counting what is wrong, feeding texts. */
final class Check {
    private static int wrong = 0;
    private static int asked = 0;

    private Check() { }

    static void due(String call, long got, long want) {
        asked++;
        if (got != want) {
            wrong++;
            if (wrong <= 50) {
                System.out.println(call + " answered " + got + ", due is " + want);
            }
        }
    }

    static void holds(String what, boolean it) {
        due(what, it ? 1 : 0, 1);
    }

    static void end() {
        System.out.println(asked + " answers, " + wrong + " of them wrong");
        System.exit(wrong == 0 ? 0 : 1);
    }

    /** The bytes behind the TAPE, filled up with blanks to a multiple of twenty. */
    static void feed(BeatQueues q, byte[] bytes) {
        for (int at = 0; at < bytes.length; at += 20) {
            byte[] part = new byte[20];
            Arrays.fill(part, (byte) ' ');
            System.arraycopy(bytes, at, part, 0, Math.min(20, bytes.length - at));
            java.nio.ByteBuffer b = java.nio.ByteBuffer.wrap(part);
            q.feed(b.getInt(), b.getInt(), b.getInt(), b.getInt(), b.getInt());
        }
    }

    static int text(BeatQueues q, String text) {
        byte[] bytes = text.getBytes(StandardCharsets.ISO_8859_1);
        feed(q, bytes);
        return q.text(bytes.length);
    }

    /** A new object with this text, which must be one without a FAULT. */
    static BeatQueues told(String text) {
        BeatQueues q = new BeatQueues();
        holds("without a FAULT: " + text, text(q, text) >= 0);
        return q;
    }

    /** Kind 0: the text is without a FAULT. */
    static void fault(String text, int kind, int place) {
        BeatQueues q = new BeatQueues();
        int lines = text(q, text);
        holds("text: " + text, kind == 0 ? lines >= 0 : lines == -1);
        due("fault(0): " + text, q.fault(0), kind);
        due("fault(1): " + text, q.fault(1), place);
    }

    /** What out() answers, 1001 for IndexOutOfBoundsException, 1002 for NoSuchElementException. */
    static int out(BeatQueues q, int machine, int what) {
        try {
            return q.out(machine, what);
        } catch (IndexOutOfBoundsException e) {
            return 1001;
        } catch (NoSuchElementException e) {
            return 1002;
        }
    }

    /** The KEYS that a MACHINE KEEPS from a place on, -2 for none. */
    static void row(BeatQueues q, String what, int machine, int from, int... keys) {
        for (int i = 0; i < keys.length; i++) {
            due(what + ": kept(" + machine + "," + (from + i) + ")", q.kept(machine, from + i, 0), keys[i]);
        }
    }

    /** The KEYS that CELLS HAND on, from CELL 0 on. */
    static void hands(BeatQueues q, String what, int... keys) {
        for (int i = 0; i < keys.length; i++) {
            due(what + ": handed(" + i + ")", q.handed(i, 0), keys[i]);
        }
    }

    static void token(BeatQueues q, String what, int level, int node, int kind, int key) {
        due(what + ": token(" + level + ",0)", q.token(level, 0), node);
        due(what + ": token(" + level + ",1)", q.token(level, 1), kind);
        due(what + ": token(" + level + ",2)", q.token(level, 2), key);
    }

    static void noToken(BeatQueues q, String what, int level) {
        for (int part = 0; part < 5; part++) {
            due(what + ": token(" + level + "," + part + ")", q.token(level, part), -2);
        }
    }

    static int letters(String word) {
        int code = 0;
        for (int i = 0; i < 6; i++) {
            code = code * 32 + (i < word.length() ? word.charAt(i) - 'a' + 1 : 0);
        }
        return code;
    }
}
