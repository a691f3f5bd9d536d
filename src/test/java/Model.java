import java.util.ArrayDeque;
import java.util.ArrayList;
import java.util.Comparator;
import java.util.Deque;
import java.util.LinkedHashMap;
import java.util.List;
import java.util.Map;
import java.util.NoSuchElementException;
import java.util.TreeMap;
import java.util.regex.Matcher;
import java.util.regex.Pattern;

/**
 * The document once more, as literally as the Java library allows, to hold the class against.
 * It shares no code and no way of keeping things with the class: objects in place of numbers,
 * FREE counted anew each time by its definition, FAULTS gathered and sorted by place and kind.
 */
final class Model {
    static final int NONE = -1;

    static final class Entry {
        final int key;
        final int name;
        final int stamp;
        boolean marked;

        Entry(int key, int name, int stamp) {
            this.key = key;
            this.name = name;
            this.stamp = stamp;
        }

        Entry copy() {
            Entry e = new Entry(key, name, stamp);
            e.marked = marked;
            return e;
        }

        boolean lessThan(Entry o) {
            return key != o.key ? key < o.key : stamp < o.stamp;
        }

        int part(int what) {
            return what == 0 ? key : what == 1 ? name : what == 2 ? stamp : marked ? 1 : 0;
        }
    }

    record Gone(Entry entry, int beat) { }

    record Act(String word, int key, int name) { }

    static Entry copyOf(Entry e) {
        return e == null ? null : e.copy();
    }

    static int part(Entry e, int what) {
        return e == null ? -2 : e.part(what);
    }

    // ---------------------------------------------------------------- machines

    abstract static class Queue {
        Entry out;
        int lost;
        int refused;
        int misses;
        int swept;
        final List<Gone> outs = new ArrayList<>();

        abstract Queue copy();

        abstract Entry head();

        abstract void first();

        abstract void put(Entry e);

        abstract void removeHead();

        abstract void both(Entry e);

        abstract boolean settled();

        /** Place, ENTRY in it or null; what is on its way under -3 and below. */
        abstract Map<Integer, Entry> everything();

        <T extends Queue> T copyCounts(T to) {
            to.out = copyOf(out);
            to.lost = lost;
            to.refused = refused;
            to.misses = misses;
            to.swept = swept;
            for (Gone g : outs) {
                to.outs.add(g);
            }
            return to;
        }

        List<Entry> entries() {
            List<Entry> found = new ArrayList<>();
            for (Entry e : everything().values()) {
                if (e != null) {
                    found.add(e);
                }
            }
            return found;
        }

        Entry cancelled(int name) {
            return entries().stream().filter(e -> e.name == name && !e.marked)
                    .min(Comparator.comparingInt(e -> e.stamp)).orElse(null);
        }

        void strike(Entry e) {
            e.marked = true;
        }

        void headGoes(int beat) {
            Entry h = head();
            if (h == null) {
                misses++;
            } else if (h.marked) {
                misses++;
                swept++;
            } else {
                out = h;
                outs.add(new Gone(h, beat));
            }
        }

        void sweep() {
            Entry h = head();
            if (h != null && h.marked) {
                swept++;
                removeHead();
            }
        }

        void beat(Act act, int beat) {
            out = null;
            first();
            Entry fresh = new Entry(act.key, act.name, beat);
            Entry struck = cancelled(act.name);
            switch (act.word) {
                case "put" -> put(fresh);
                case "take" -> {
                    headGoes(beat);
                    if (head() != null) {
                        removeHead();
                    }
                }
                case "both" -> {
                    headGoes(beat);
                    both(fresh);
                }
                case "wait" -> sweep();
                case "cancel" -> {
                    if (struck != null) {
                        strike(struck);
                    }
                    sweep();
                }
                case "renew" -> {
                    if (struck != null) {
                        strike(struck);
                        put(fresh);
                    }
                }
                default -> throw new AssertionError(act.word);
            }
        }
    }

    static final class Shift extends Queue {
        final int cells;
        final List<Entry> row = new ArrayList<>();

        Shift(int cells) {
            this.cells = cells;
        }

        Shift copy() {
            Shift s = copyCounts(new Shift(cells));
            row.forEach(e -> s.row.add(e.copy()));
            return s;
        }

        Entry head() {
            return row.isEmpty() ? null : row.get(0);
        }

        void first() { }

        void put(Entry e) {
            row.add(e);
            row.sort(Comparator.<Entry>comparingInt(x -> x.key).thenComparingInt(x -> x.stamp));
            if (row.size() > cells) {
                row.remove(cells);
                lost++;
            }
        }

        void removeHead() {
            row.remove(0);
        }

        void both(Entry e) {
            if (!row.isEmpty()) {
                removeHead();
            }
            put(e);
        }

        void strike(Entry e) {
            row.removeIf(x -> x == e);
        }

        boolean settled() {
            return true;
        }

        Map<Integer, Entry> everything() {
            Map<Integer, Entry> all = new TreeMap<>();
            for (int i = 0; i < cells; i++) {
                all.put(i, i < row.size() ? row.get(i) : null);
            }
            return all;
        }
    }

    static final class Handing extends Queue {
        final int cells;
        final Entry[] keeps;
        final Entry[] hands;

        Handing(int cells) {
            this.cells = cells;
            keeps = new Entry[cells];
            hands = new Entry[cells];
        }

        Handing copy() {
            Handing h = copyCounts(new Handing(cells));
            for (int i = 0; i < cells; i++) {
                h.keeps[i] = copyOf(keeps[i]);
                h.hands[i] = copyOf(hands[i]);
            }
            return h;
        }

        Entry head() {
            return keeps[0];
        }

        void comes(int i, Entry e) {
            if (i == cells) {
                lost++;
            } else if (keeps[i] == null && i + 1 < cells && keeps[i + 1] != null && keeps[i + 1].lessThan(e)) {
                keeps[i] = keeps[i + 1];
                keeps[i + 1] = null;
                hands[i] = e;
            } else if (keeps[i] == null) {
                keeps[i] = e;
            } else if (e.lessThan(keeps[i])) {
                hands[i] = keeps[i];
                keeps[i] = e;
            } else {
                hands[i] = e;
            }
        }

        void first() {
            for (int i = cells - 1; i >= 0; i--) {
                Entry e = hands[i];
                hands[i] = null;
                if (e != null) {
                    comes(i + 1, e);
                }
            }
            // the document's TAKE without HEAD shifts the row too: no matter, for then nothing is there
            if (keeps[0] == null && !entries().isEmpty()) {
                throw new AssertionError("no HEAD, but ENTRIES");
            }
        }

        void put(Entry e) {
            comes(0, e);
        }

        void removeHead() {
            for (int i = 0; i < cells; i++) {
                keeps[i] = i + 1 < cells ? keeps[i + 1] : null;
                hands[i] = i + 1 < cells ? hands[i + 1] : null;
            }
        }

        void both(Entry e) {
            keeps[0] = null;
            comes(0, e);
        }

        boolean settled() {
            for (Entry e : hands) {
                if (e != null) {
                    return false;
                }
            }
            return head() == null || !head().marked;
        }

        Map<Integer, Entry> everything() {
            Map<Integer, Entry> all = new LinkedHashMap<>();
            for (int i = 0; i < cells; i++) {
                all.put(i, keeps[i]);
                all.put(-3 - i, hands[i]);
            }
            return all;
        }
    }

    record Token(int node, int kind, Entry entry) { }

    static final class Heap extends Queue {
        final int levels;
        final Entry[] nodes;
        final Token[] tokens;

        Heap(int levels) {
            this.levels = levels;
            nodes = new Entry[1 << levels];
            tokens = new Token[levels + 1];
        }

        Heap copy() {
            Heap h = copyCounts(new Heap(levels));
            for (int i = 1; i < nodes.length; i++) {
                h.nodes[i] = copyOf(nodes[i]);
            }
            for (int l = 1; l < levels; l++) {
                h.tokens[l] = tokens[l] == null ? null
                        : new Token(tokens[l].node, tokens[l].kind, copyOf(tokens[l].entry));
            }
            return h;
        }

        int free(int node) {
            if (node >= nodes.length) {
                return 0;
            }
            int count = nodes[node] == null ? 1 : 0;
            for (Token t : tokens) {
                if (t != null && t.node == node && t.entry != null) {
                    count--;
                }
            }
            return count + free(2 * node) + free(2 * node + 1);
        }

        Entry at(int node) {
            return node < nodes.length ? nodes[node] : null;
        }

        /** 0: none behind it KEEPS one. */
        int less(int node) {
            Entry left = at(2 * node);
            Entry right = at(2 * node + 1);
            if (left == null && right == null) {
                return 0;
            }
            if (left == null || right == null) {
                return left == null ? 2 * node + 1 : 2 * node;
            }
            return left.lessThan(right) ? 2 * node : 2 * node + 1;
        }

        void send(int level, int node, int kind, Entry e) {
            if (level >= levels || tokens[level] != null) {
                throw new AssertionError("a TOKEN has no place");
            }
            tokens[level] = new Token(node, kind, e);
        }

        void comes(int level, int node, Entry e) {
            if (nodes[node] == null) {
                nodes[node] = e;
                return;
            }
            Entry other = e;
            if (e.lessThan(nodes[node])) {
                other = nodes[node];
                nodes[node] = e;
            }
            send(level + 1, free(2 * node) > 0 ? 2 * node : 2 * node + 1, 0, other);
        }

        void hole(int level, int node) {
            int below = less(node);
            if (below != 0) {
                nodes[node] = nodes[below];
                nodes[below] = null;
                send(level + 1, below, 1, null);
            }
        }

        void changes(int level, int node, Entry e) {
            int below = less(node);
            if (below == 0 || !nodes[below].lessThan(e)) {
                nodes[node] = e;
            } else {
                nodes[node] = nodes[below];
                nodes[below] = null;
                send(level + 1, below, 2, e);
            }
        }

        void first() {
            for (int l = levels - 1; l >= 1; l--) {
                Token t = tokens[l];
                tokens[l] = null;
                if (t != null) {
                    switch (t.kind) {
                        case 0 -> comes(l, t.node, t.entry);
                        case 1 -> hole(l, t.node);
                        default -> changes(l, t.node, t.entry);
                    }
                }
            }
        }

        Entry head() {
            return nodes[1];
        }

        void put(Entry e) {
            if (free(1) == 0) {
                refused++;
            } else {
                comes(0, 1, e);
            }
        }

        void removeHead() {
            nodes[1] = null;
            hole(0, 1);
        }

        void both(Entry e) {
            if (nodes[1] == null) {
                put(e);
            } else {
                nodes[1] = null;
                changes(0, 1, e);
            }
        }

        boolean settled() {
            for (Token t : tokens) {
                if (t != null) {
                    return false;
                }
            }
            return head() == null || !head().marked;
        }

        Map<Integer, Entry> everything() {
            Map<Integer, Entry> all = new LinkedHashMap<>();
            for (int i = 1; i < nodes.length; i++) {
                all.put(i, nodes[i]);
            }
            for (int l = 1; l < levels; l++) {
                all.put(-3 - l, tokens[l] == null ? null : tokens[l].entry);
            }
            return all;
        }
    }

    static final class Buckets extends Queue {
        final int deep;
        final List<List<Entry>> buckets = new ArrayList<>();

        Buckets(int count, int deep) {
            this.deep = deep;
            for (int i = 0; i < count; i++) {
                buckets.add(new ArrayList<>());
            }
        }

        Buckets copy() {
            Buckets b = copyCounts(new Buckets(buckets.size(), deep));
            for (int i = 0; i < buckets.size(); i++) {
                for (Entry e : buckets.get(i)) {
                    b.buckets.get(i).add(e.copy());
                }
            }
            return b;
        }

        Entry head() {
            return buckets.stream().filter(b -> !b.isEmpty()).map(b -> b.get(0)).findFirst().orElse(null);
        }

        void first() { }

        void put(Entry e) {
            List<Entry> bucket = buckets.get(e.key * buckets.size() / 1000);
            if (bucket.size() == deep) {
                lost++;
            } else {
                bucket.add(e);
            }
        }

        void removeHead() {
            for (List<Entry> b : buckets) {
                if (!b.isEmpty()) {
                    b.remove(0);
                    return;
                }
            }
        }

        void both(Entry e) {
            removeHead();
            put(e);
        }

        boolean settled() {
            return head() == null || !head().marked;
        }

        Map<Integer, Entry> everything() {
            Map<Integer, Entry> all = new LinkedHashMap<>();
            for (int i = 0; i < buckets.size() * deep; i++) {
                List<Entry> b = buckets.get(i / deep);
                all.put(i, i % deep < b.size() ? b.get(i % deep) : null);
            }
            return all;
        }
    }

    // ---------------------------------------------------------------- the text

    static final class Told {
        int row = 8;
        int levels = 3;
        int buckets = 4;
        int deep = 4;
        int seed = 0;
        int lines = 0;
        final List<Act> plan = new ArrayList<>();
        final List<String> names = new ArrayList<>();

        Queue machine(int m) {
            return switch (m) {
                case 0 -> new Shift(row);
                case 1 -> new Handing(row);
                case 2 -> new Heap(levels);
                default -> new Buckets(buckets, deep);
            };
        }
    }

    record Fault(int kind, int place) { }

    /** Reads a TEXT; its FAULT is null if there is none. */
    static final class Parse {
        static final Pattern TOKEN = Pattern.compile("[a-z]+|[0-9]+|[^ \\n]", Pattern.DOTALL);
        static final List<String> WORDS = List.of("row", "levels", "buckets", "seed", "put", "take", "both",
                "wait", "cancel", "renew");
        final Told told = new Told();
        final List<Fault> faults = new ArrayList<>();
        final List<String> tokens = new ArrayList<>();
        final List<Integer> places = new ArrayList<>();
        final List<String> settings = new ArrayList<>();
        int at = 0;

        static final class Stop extends RuntimeException {
            private static final long serialVersionUID = 1L;
        }

        Parse(String text) {
            Matcher m = TOKEN.matcher(text);
            while (m.find()) {
                tokens.add(m.group());
                places.add(m.start());
            }
            tokens.add("");
            places.add(text.length());
            try {
                while (!tokens.get(at).isEmpty()) {
                    line();
                    told.lines++;
                }
            } catch (Stop stop) {
                // nothing behind a TOKEN that can't stand there tells anything
            }
            faults.sort(Comparator.comparingInt(Fault::place).thenComparingInt(Fault::kind));
        }

        Fault fault() {
            return faults.isEmpty() ? null : faults.get(0);
        }

        void wrong(int kind) {
            faults.add(new Fault(kind, places.get(at)));
            if (kind == 1) {
                throw new Stop();
            }
        }

        int number(int least, int most) {
            if (!tokens.get(at).matches("[0-9]+")) {
                wrong(1);
            }
            java.math.BigInteger n = new java.math.BigInteger(tokens.get(at));
            boolean fits = n.compareTo(java.math.BigInteger.valueOf(least)) >= 0
                    && n.compareTo(java.math.BigInteger.valueOf(most)) <= 0;
            if (!fits) {
                wrong(2);
            }
            at++;
            return fits ? n.intValue() : least;
        }

        int name(boolean must) {
            String w = tokens.get(at);
            if (!w.matches("[a-z]{1,6}") || WORDS.contains(w)) {
                wrong(1);
            }
            if (!told.names.contains(w)) {
                if (must) {
                    wrong(4);
                }
                if (told.names.size() >= 24) {
                    wrong(2);
                }
                told.names.add(w);
            }
            at++;
            return told.names.indexOf(w);
        }

        void line() {
            String w = tokens.get(at);
            if (!WORDS.contains(w)) {
                wrong(1);
            }
            if (WORDS.indexOf(w) < 4) {
                if (settings.contains(w)) {
                    wrong(3);
                }
                settings.add(w);
                at++;
                switch (w) {
                    case "row" -> told.row = number(1, 16);
                    case "levels" -> told.levels = number(1, 4);
                    case "buckets" -> {
                        told.buckets = number(1, 8);
                        told.deep = number(1, 8);
                    }
                    default -> told.seed = number(0, 99999);
                }
            } else {
                if (told.plan.size() >= 40) {
                    wrong(2);
                }
                at++;
                int name = List.of("take", "wait").contains(w) ? 0 : name(List.of("cancel", "renew").contains(w));
                int key = List.of("put", "both", "renew").contains(w) ? number(0, 999) : 0;
                told.plan.add(new Act(w, key, name));
            }
            if (!tokens.get(at).equals(";")) {
                wrong(1);
            }
            at++;
        }
    }

    // ---------------------------------------------------------------- the object

    static final class Moment {
        final Queue[] queues = new Queue[4];
        int beats;
        int planAt;

        Moment copy() {
            Moment m = new Moment();
            for (int i = 0; i < 4; i++) {
                m.queues[i] = queues[i].copy();
            }
            m.beats = beats;
            m.planAt = planAt;
            return m;
        }
    }

    private static final Act WAIT = new Act("wait", 0, 0);
    private static final Act TAKE = new Act("take", 0, 0);

    private final List<Byte> tape = new ArrayList<>();
    private Told told = new Told();
    private Fault fault = null;
    private Moment now = fresh(told);
    private Deque<Moment> past = new ArrayDeque<>();
    private Moment image = null;

    private static Moment fresh(Told told) {
        Moment m = new Moment();
        for (int i = 0; i < 4; i++) {
            m.queues[i] = told.machine(i);
        }
        return m;
    }

    private static boolean in(int x, int least, int most) {
        return x >= least && x <= most;
    }

    private Queue queue(int machine) {
        return now.queues[machine];
    }

    int feed(int a, int b, int c, int d, int e) {
        if (tape.size() + 20 > 700) {
            return NONE;
        }
        for (int x : new int[] {a, b, c, d, e}) {
            for (byte y : java.nio.ByteBuffer.allocate(4).putInt(x).array()) {
                tape.add(y);
            }
        }
        return tape.size();
    }

    int text(int n) {
        if (!in(n, 0, tape.size())) {
            return -2;
        }
        StringBuilder s = new StringBuilder();
        for (byte b : tape.subList(0, n)) {
            s.append((char) (b & 255));
        }
        tape.clear();
        Parse parse = new Parse(s.toString());
        fault = parse.fault();
        if (fault != null) {
            return NONE;
        }
        told = parse.told;
        now = fresh(told);
        past.clear();
        image = null;
        return told.lines;
    }

    int fault(int what) {
        return switch (what) {
            case 0 -> fault == null ? 0 : fault.kind;
            case 1 -> fault == null ? NONE : fault.place;
            default -> NONE;
        };
    }

    int named(int letters) {
        for (int i = 0; i < told.names.size(); i++) {
            String w = told.names.get(i);
            int code = 0;
            for (int k = 0; k < w.length(); k++) {
                code += (w.charAt(k) - 96) << (25 - 5 * k);
            }
            if (code == letters) {
                return i;
            }
        }
        return NONE;
    }

    private int beat(String word, int key, int name) {
        if (!in(key, 0, 999) || !in(name, 0, 31)) {
            return NONE;
        }
        if (now.beats == 9999) {
            return -2;
        }
        past.push(now.copy());
        if (past.size() > 20) {
            past.removeLast();
        }
        for (Queue q : now.queues) {
            q.beat(new Act(word, key, name), now.beats);
        }
        return ++now.beats;
    }

    int put(int key, int name) {
        return beat("put", key, name);
    }

    int take() {
        return beat("take", 0, 0);
    }

    int both(int key, int name) {
        return beat("both", key, name);
    }

    int pause() {
        return beat("wait", 0, 0);
    }

    int cancel(int name) {
        return beat("cancel", 0, name);
    }

    int renew(int key, int name) {
        return beat("renew", key, name);
    }

    int run(int n) {
        if (!in(n, 1, 40)) {
            return NONE;
        }
        int done = 0;
        while (done < n && now.planAt < told.plan.size() && now.beats < 9999) {
            Act a = told.plan.get(now.planAt);
            beat(a.word, a.key, a.name);
            now.planAt++;
            done++;
        }
        return done;
    }

    int out(int machine, int what) {
        if (!in(machine, 0, 3)) {
            throw new IndexOutOfBoundsException();
        }
        if (!in(what, 0, 2)) {
            throw new NoSuchElementException();
        }
        return part(queue(machine).out, what);
    }

    int head(int machine, int what) {
        return in(machine, 0, 3) && in(what, 0, 3) ? part(queue(machine).head(), what) : NONE;
    }

    int kept(int machine, int i, int what) {
        if (!in(machine, 0, 3) || !in(what, 0, 3) || i < 0 || !queue(machine).everything().containsKey(i)) {
            return NONE;
        }
        return part(queue(machine).everything().get(i), what);
    }

    int handed(int i, int what) {
        Handing h = (Handing) queue(1);
        return in(i, 0, h.cells - 1) && in(what, 0, 3) ? part(h.hands[i], what) : NONE;
    }

    int token(int level, int what) {
        Heap h = (Heap) queue(2);
        if (!in(level, 1, h.levels - 1) || !in(what, 0, 4)) {
            return NONE;
        }
        Token t = h.tokens[level];
        if (t == null) {
            return -2;
        }
        return what == 0 ? t.node : what == 1 ? t.kind : part(t.entry, what - 2);
    }

    int free(int node) {
        Heap h = (Heap) queue(2);
        return in(node, 1, h.nodes.length - 1) ? h.free(node) : NONE;
    }

    int of(int machine, int what) {
        if (!in(machine, 0, 3)) {
            return NONE;
        }
        Queue q = queue(machine);
        return switch (what) {
            case 0 -> q.entries().size();
            case 1 -> (int) q.entries().stream().filter(e -> e.marked).count();
            case 2 -> q.lost;
            case 3 -> q.refused;
            case 4 -> q.misses;
            case 5 -> q.swept;
            case 6 -> q.outs.size();
            case 7 -> q.settled() ? 1 : 0;
            default -> NONE;
        };
    }

    int holds(int machine, int name) {
        if (!in(machine, 0, 3) || !in(name, 0, 31)) {
            return NONE;
        }
        return (int) queue(machine).entries().stream().filter(e -> !e.marked && e.name == name).count();
    }

    int place(int machine, int name) {
        if (!in(machine, 0, 3) || !in(name, 0, 31)) {
            return NONE;
        }
        Entry e = queue(machine).cancelled(name);
        return e == null ? -2 : Math.max(-3, placeOf(queue(machine), e.stamp));
    }

    private static int placeOf(Queue q, int stamp) {
        for (Map.Entry<Integer, Entry> x : q.everything().entrySet()) {
            if (x.getValue() != null && x.getValue().stamp == stamp) {
                return x.getKey();
            }
        }
        return -2;
    }

    int waited(int machine, int what) {
        if (!in(machine, 0, 3) || !in(what, 0, 1)) {
            return NONE;
        }
        var waits = queue(machine).outs.stream().mapToInt(g -> g.beat - g.entry.stamp);
        return what == 0 ? waits.sum() : waits.max().orElse(0);
    }

    int settle(int machine) {
        if (!in(machine, 0, 3)) {
            return NONE;
        }
        Queue q = queue(machine).copy();
        int waits = 0;
        while (!q.settled()) {
            q.beat(WAIT, now.beats + waits++);
        }
        return waits;
    }

    private List<Gone> drain(int machine) {
        Queue q = queue(machine).copy();
        List<Gone> gone = new ArrayList<>();
        for (int i = 0; i < 60; i++) {
            q.beat(TAKE, now.beats + i);
            if (q.out != null) {
                gone.add(new Gone(q.out, i));
            }
        }
        return gone;
    }

    int drained(int machine, int k, int what) {
        if (!in(machine, 0, 3) || k < 0 || !in(what, 0, 3)) {
            return NONE;
        }
        List<Gone> gone = drain(machine);
        return k >= gone.size() ? -2 : what == 3 ? gone.get(k).beat : gone.get(k).entry.part(what);
    }

    int drains(int machine) {
        return in(machine, 0, 3) ? drain(machine).size() : NONE;
    }

    int unlike(int one, int other) {
        if (!in(one, 0, 3) || !in(other, 0, 3)) {
            return NONE;
        }
        List<Gone> a = drain(one);
        List<Gone> b = drain(other);
        int k = 0;
        while (k < a.size() && k < b.size() && a.get(k).entry.stamp == b.get(k).entry.stamp) {
            k++;
        }
        return k == a.size() && k == b.size() ? -2 : k;
    }

    int turn(int machine, int name) {
        if (!in(machine, 0, 3) || !in(name, 0, 31)) {
            return NONE;
        }
        return drain(machine).stream().filter(g -> g.entry.name == name).map(g -> g.beat).findFirst().orElse(-2);
    }

    int apart(int machine) {
        if (!in(machine, 0, 3)) {
            return NONE;
        }
        Map<Integer, Entry> kept = new TreeMap<>(queue(machine).everything());
        int couples = 0;
        for (int i : kept.keySet()) {
            for (int j : kept.keySet()) {
                if (0 <= i && i < j && kept.get(i) != null && kept.get(j) != null
                        && kept.get(j).lessThan(kept.get(i))) {
                    couples++;
                }
            }
        }
        return couples;
    }

    private static boolean least(Queue q) {
        return q.head() == null || q.entries().stream().noneMatch(e -> e.lessThan(q.head()));
    }

    int isLeast(int machine) {
        return !in(machine, 0, 3) ? NONE : least(queue(machine)) ? 1 : 0;
    }

    private List<Entry> follow(Queue q, int from, int n, int beats) {
        List<Entry> outs = new ArrayList<>();
        for (int i = 0; i < n && from + i < told.plan.size(); i++) {
            q.beat(told.plan.get(from + i), beats + i);
            outs.add(q.out);
        }
        return outs;
    }

    int ahead(int n, int machine, int what) {
        if (!in(n, 0, 40) || !in(machine, 0, 3) || !in(what, 0, 3)) {
            return NONE;
        }
        Queue q = queue(machine).copy();
        follow(q, now.planAt, n, now.beats);
        return part(q.head(), what);
    }

    int differs(int n, int one, int other) {
        if (!in(n, 1, 40) || !in(one, 0, 3) || !in(other, 0, 3)) {
            return NONE;
        }
        List<Entry> a = follow(queue(one).copy(), now.planAt, n, now.beats);
        List<Entry> b = follow(queue(other).copy(), now.planAt, n, now.beats);
        int unlike = 0;
        for (int i = 0; i < a.size(); i++) {
            if (part(a.get(i), 2) != part(b.get(i), 2)) {
                unlike++;
            }
        }
        return unlike;
    }

    private boolean enough(Queue q, int waits) {
        follow(q, 0, 40, 0);
        for (int i = 0; i < waits; i++) {
            q.beat(WAIT, told.plan.size() + i);
        }
        return q.lost == 0 && q.refused == 0;
    }

    int leastRow(int machine) {
        if (!in(machine, 0, 1)) {
            return NONE;
        }
        for (int r = 1; r <= 16; r++) {
            if (enough(machine == 0 ? new Shift(r) : new Handing(r), 40)) {
                return r;
            }
        }
        return -2;
    }

    int leastLevels() {
        for (int l = 1; l <= 4; l++) {
            if (enough(new Heap(l), 0)) {
                return l;
            }
        }
        return -2;
    }

    int leastDeep() {
        for (int d = 1; d <= 8; d++) {
            if (enough(new Buckets(told.buckets, d), 0)) {
                return d;
            }
        }
        return -2;
    }

    private List<Gone> logged(int machine) {
        List<Gone> outs = queue(machine).outs;
        return outs.subList(Math.max(0, outs.size() - 20), outs.size());
    }

    int swaps(int machine) {
        if (!in(machine, 0, 3)) {
            return NONE;
        }
        int couples = 0;
        List<Gone> outs = logged(machine);
        for (int i = 0; i < outs.size(); i++) {
            for (Gone later : outs.subList(i + 1, outs.size())) {
                if (later.entry.lessThan(outs.get(i).entry) && later.entry.stamp < outs.get(i).beat) {
                    couples++;
                }
            }
        }
        return couples;
    }

    int lands(int machine, int key) {
        if (!in(machine, 0, 3) || !in(key, 0, 999)) {
            return NONE;
        }
        Queue q = queue(machine).copy();
        q.beat(new Act("put", key, 31), now.beats);
        for (int waits = 0;; waits++) {
            int place = placeOf(q, now.beats);
            if (place >= -2) {
                return place == -2 ? -2 : machine == 0 ? place : place * 100 + waits;
            }
            q.beat(WAIT, now.beats + waits + 1);
        }
    }

    int log(int machine, int k, int what) {
        if (!in(machine, 0, 3) || k < 0 || !in(what, 0, 3)) {
            return NONE;
        }
        List<Gone> outs = logged(machine);
        if (k >= outs.size()) {
            return -2;
        }
        Gone g = outs.get(outs.size() - 1 - k);
        return what == 3 ? g.beat : g.entry.part(what);
    }

    private long drawn;

    private int draw(int modulo) {
        drawn = (drawn * 1103515245L + 12345L) % (1L << 31);
        return (int) (drawn / 65536 % modulo);
    }

    int chance(int seed, int n, int machine, int what) {
        if (seed < -1 || !in(n, 1, 60) || !in(machine, 0, 3) || !in(what, 0, 3)) {
            return NONE;
        }
        drawn = seed == -1 ? told.seed : seed;
        Queue q = queue(machine).copy();
        int outs = q.outs.size();
        int misses = q.misses;
        int losses = q.lost + q.refused;
        int notLeast = 0;
        for (int i = 0; i < n; i++) {
            int which = draw(8);
            int key = which <= 3 || which == 6 ? draw(50) : 0;
            int name = which <= 3 || which >= 6 ? draw(32) : 0;
            String word = which <= 3 ? "put" : which <= 5 ? "take" : which == 6 ? "both" : "cancel";
            q.beat(new Act(word, key, name), now.beats + i);
            notLeast += least(q) ? 0 : 1;
        }
        return switch (what) {
            case 0 -> q.outs.size() - outs;
            case 1 -> q.misses - misses;
            case 2 -> q.lost + q.refused - losses;
            default -> notLeast;
        };
    }

    int undo() {
        if (past.isEmpty()) {
            return NONE;
        }
        now = past.pop();
        return past.size();
    }

    int keep() {
        image = now.copy();
        return now.beats;
    }

    int back() {
        if (image == null) {
            return NONE;
        }
        now = image.copy();
        past.clear();
        return now.beats;
    }

    int count(int what) {
        return switch (what) {
            case 0 -> told.row;
            case 1 -> told.levels;
            case 2 -> told.plan.size();
            case 3 -> now.planAt;
            case 4 -> now.beats;
            case 5 -> told.names.size();
            case 6 -> past.size();
            case 7 -> tape.size();
            case 8 -> told.buckets;
            case 9 -> told.deep;
            default -> NONE;
        };
    }
}
