import java.nio.ByteBuffer;
import java.nio.charset.StandardCharsets;

/**
 * Every run of some few acts on small MACHINES, on the class and on the model of the document, all that can
 * be seen held against one another behind each act. The way back goes by undo(), so that is tried as well;
 * an object has more calls so than the 512 that the document promises, which is no matter to this class.
 */
public final class SmallRunsTest {
    private static final String[] SIZES = {
        "row 1;levels 1;buckets 1 1;", "row 2;levels 2;buckets 2 1;", "row 3;levels 3;buckets 1 3;"};
    private static final String PLAN = "put a 400;put b 300;cancel a;both b 500;renew b 2;take;take;";
    private static final String[] ACTS = {
        "put(0)", "put(500)", "take", "both(0)", "both(500)", "wait", "cancel", "renew(500)", "plan"};

    private final BeatQueues real;
    private final Model model;
    private final StringBuilder story = new StringBuilder();

    private SmallRunsTest(String text) {
        real = new BeatQueues();
        model = new Model();
        story.append(text);
        String filled = text + " ".repeat(20 - text.length() % 20);
        ByteBuffer b = ByteBuffer.wrap(filled.getBytes(StandardCharsets.ISO_8859_1));
        while (b.hasRemaining()) {
            int[] x = {b.getInt(), b.getInt(), b.getInt(), b.getInt(), b.getInt()};
            due("feed", real.feed(x[0], x[1], x[2], x[3], x[4]), model.feed(x[0], x[1], x[2], x[3], x[4]));
        }
        due("text", real.text(text.length()), model.text(text.length()));
        due("fault(0)", real.fault(0), 0);
    }

    /** The second argument, if there is one, tells how many acts a run has. */
    public static void main(String[] args) {
        int deep = args.length > 1 ? Integer.parseInt(args[1]) : 4;
        for (String size : SIZES) {
            new SmallRunsTest(size + PLAN).walk(deep);
        }
        Check.end();
    }

    private void due(String call, int got, int want) {
        Check.due(got == want ? call : story + " " + call, got, want);
    }

    private void walk(int left) {
        look();
        if (left == 0) {
            return;
        }
        int told = story.length();
        for (int act = 0; act < ACTS.length; act++) {
            story.append(' ').append(ACTS[act]);
            due("act", done(act), modelled(act));
            walk(left - 1);
            due("undo", real.undo(), model.undo());
            story.setLength(told);
        }
    }

    private int done(int act) {
        switch (act) {
            case 0: return real.put(0, 0);
            case 1: return real.put(500, 0);
            case 2: return real.take();
            case 3: return real.both(0, 1);
            case 4: return real.both(500, 0);
            case 5: return real.pause();
            case 6: return real.cancel(0);
            case 7: return real.renew(500, 0);
            default: return real.run(1);
        }
    }

    private int modelled(int act) {
        switch (act) {
            case 0: return model.put(0, 0);
            case 1: return model.put(500, 0);
            case 2: return model.take();
            case 3: return model.both(0, 1);
            case 4: return model.both(500, 0);
            case 5: return model.pause();
            case 6: return model.cancel(0);
            case 7: return model.renew(500, 0);
            default: return model.run(1);
        }
    }

    private void look() {
        for (int m = 0; m < 4; m++) {
            for (int what = 0; what < 8; what++) {
                due("of " + m + "," + what, real.of(m, what), model.of(m, what));
            }
            for (int i = 0; i < 8; i++) {
                due("kept " + m + "," + i, real.kept(m, i, 2), model.kept(m, i, 2));
                due("kept " + m + "," + i, real.kept(m, i, 3), model.kept(m, i, 3));
            }
            due("out " + m, real.out(m, 2), model.out(m, 2));
            due("log " + m, real.log(m, 0, 3), model.log(m, 0, 3));
            tried(m);
        }
        for (int i = 0; i < 8; i++) {
            due("handed " + i, real.handed(i, 2), model.handed(i, 2));
            due("free " + i, real.free(i), model.free(i));
        }
        for (int what = 0; what < 5; what++) {
            due("token 1," + what, real.token(1, what), model.token(1, what));
            due("token 2," + what, real.token(2, what), model.token(2, what));
        }
    }

    private void tried(int m) {
        due("place " + m, real.place(m, 0), model.place(m, 0));
        due("settle " + m, real.settle(m), model.settle(m));
        due("turn " + m, real.turn(m, 0), model.turn(m, 0));
        due("unlike " + m, real.unlike(m, 0), model.unlike(m, 0));
        due("swaps " + m, real.swaps(m), model.swaps(m));
        due("isLeast " + m, real.isLeast(m), model.isLeast(m));
        due("lands " + m, real.lands(m, 400), model.lands(m, 400));
        due("differs " + m, real.differs(3, m, 1), model.differs(3, m, 1));
    }
}
