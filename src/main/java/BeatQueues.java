import java.util.NoSuchElementException;

/**
 * Four queues as hardware would build them, all fed with the same act in each BEAT.
 *
 * <p>Every MACHINE is one row of numbers that can be copied whole: what is tried is done on a copy,
 * and undoing and images put an older copy back. So no call but the constructor makes an object.
 */
public final class BeatQueues {
    public static final int NONE = -1;

    private static final int NOTHING = -2;
    private static final int ON_ITS_WAY = -3;

    private static final int MACHINES = 4;
    private static final int SHIFT_ROW = 0;
    private static final int HANDING_ROW = 1;
    private static final int HEAP = 2;
    private static final int BUCKETS = 3;

    private static final int PUT = 0;
    private static final int TAKE = 1;
    private static final int BOTH = 2;
    private static final int WAIT = 3;
    private static final int CANCEL = 4;
    private static final int RENEW = 5;

    private static final int MOST_KEY = 999;
    private static final int MOST_NAME = 31;
    private static final int MOST_BEATS = 9999;
    private static final int MOST_CELLS = 16;
    private static final int MOST_LEVELS = 4;
    private static final int MOST_BUCKETS = 8;
    private static final int MOST_DEEP = 8;
    private static final int MOST_PLAN = 40;
    private static final int MOST_TRIED = 60;
    private static final int MOST_UNDONE = 20;
    private static final int LAST_WAITS = 40;

    /** Far above what WAIT alone needs: no MACHINE has more than 64 ENTRIES to sweep or move. */
    private static final int MOST_WAITS = 200;

    private static final int MOMENT_BEATS = 0;
    private static final int MOMENT_PLAN = 1;
    private static final int MOMENT_MACHINES = 2;
    private static final int MOMENT = MOMENT_MACHINES + MACHINES * Machine.STATE;

    private final Machine[] machines = new Machine[MACHINES];
    private final Machine[] probes = new Machine[MACHINES];
    private final Trial trial = new Trial();
    private final Trial otherTrial = new Trial();
    private final Reader reader = new Reader();
    private final Dice dice = new Dice();
    private Plan plan = new Plan();
    private Plan draft = new Plan();
    private int beats;
    private int planAt;
    private final int[][] past = new int[MOST_UNDONE][MOMENT];
    private int pastNext;
    private int undoable;
    private final int[] image = new int[MOMENT];
    private boolean hasImage;

    public BeatQueues() {
        machines[SHIFT_ROW] = new ShiftRow();
        machines[HANDING_ROW] = new HandingRow();
        machines[HEAP] = new Heap();
        machines[BUCKETS] = new Buckets();
        probes[SHIFT_ROW] = new ShiftRow();
        probes[HANDING_ROW] = new HandingRow();
        probes[HEAP] = new Heap();
        probes[BUCKETS] = new Buckets();
    }

    // ---- the text ----

    public int feed(int a, int b, int c, int d, int e) {
        if (!reader.hasRoomFor(20)) {
            return NONE;
        }
        reader.addFour(a);
        reader.addFour(b);
        reader.addFour(c);
        reader.addFour(d);
        reader.addFour(e);
        return reader.taped();
    }

    public int text(int n) {
        if (n < 0 || n > reader.taped()) {
            return NOTHING;
        }
        int lines = reader.read(n, draft);
        if (lines == NONE) {
            return NONE;
        }
        Plan old = plan;
        plan = draft;
        draft = old;
        startOver();
        return lines;
    }

    public int fault(int what) {
        switch (what) {
            case 0:
                return reader.faultKind();
            case 1:
                return reader.faultPlace();
            default:
                return NONE;
        }
    }

    public int named(int letters) {
        return plan.numberOf(letters);
    }

    // ---- beats ----

    public int put(int key, int name) {
        return isKey(key) && isName(name) ? beat(PUT, key, name) : NONE;
    }

    public int take() {
        return beat(TAKE, 0, 0);
    }

    public int both(int key, int name) {
        return isKey(key) && isName(name) ? beat(BOTH, key, name) : NONE;
    }

    public int pause() {
        return beat(WAIT, 0, 0);
    }

    public int cancel(int name) {
        return isName(name) ? beat(CANCEL, 0, name) : NONE;
    }

    public int renew(int key, int name) {
        return isKey(key) && isName(name) ? beat(RENEW, key, name) : NONE;
    }

    public int run(int n) {
        if (n < 1 || n > MOST_PLAN) {
            return NONE;
        }
        int done = 0;
        while (done < n && planAt < plan.size() && beats < MOST_BEATS) {
            beat(plan.actAt(planAt), plan.keyAt(planAt), plan.nameAt(planAt));
            planAt++;
            done++;
        }
        return done;
    }

    // ---- what is where ----

    public int out(int machine, int what) throws IndexOutOfBoundsException, NoSuchElementException {
        Machine it = machineAt(machine);
        if (it == null) {
            throw new IndexOutOfBoundsException("no such MACHINE");
        }
        if (what < 0 || what > 2) {
            throw new NoSuchElementException("no such what");
        }
        return Entry.part(it.latest(), what);
    }

    public int head(int machine, int what) {
        Machine it = machineAt(machine);
        return it == null || !isPart(what) ? NONE : Entry.part(it.top(), what);
    }

    public int kept(int machine, int i, int what) {
        Machine it = machineAt(machine);
        return it == null || !it.hasPlace(i) || !isPart(what) ? NONE : Entry.part(it.slot(i), what);
    }

    public int handed(int i, int what) {
        if (machineAt(HANDING_ROW) instanceof HandingRow row && row.hasPlace(i) && isPart(what)) {
            return Entry.part(row.handedBy(i), what);
        }
        return NONE;
    }

    public int token(int level, int what) {
        if (machineAt(HEAP) instanceof Heap heap && heap.hasTokenLevel(level) && what >= 0 && what <= 4) {
            return heap.tokenPart(level, what);
        }
        return NONE;
    }

    public int free(int node) {
        if (machineAt(HEAP) instanceof Heap heap && heap.hasPlace(node)) {
            return heap.freeBelow(node);
        }
        return NONE;
    }

    public int of(int machine, int what) {
        Machine it = machineAt(machine);
        if (it == null) {
            return NONE;
        }
        switch (what) {
            case 0:
                return it.countEntries();
            case 1:
                return it.countMarked();
            case 2:
                return it.counted(Machine.LOST);
            case 3:
                return it.counted(Machine.REFUSED);
            case 4:
                return it.counted(Machine.MISSES);
            case 5:
                return it.counted(Machine.SWEPT);
            case 6:
                return it.counted(Machine.OUTS);
            case 7:
                return it.isSettled() ? 1 : 0;
            default:
                return NONE;
        }
    }

    public int holds(int machine, int name) {
        Machine it = machineAt(machine);
        return it == null || !isName(name) ? NONE : it.countNamed(name);
    }

    public int place(int machine, int name) {
        Machine it = machineAt(machine);
        return it == null || !isName(name) ? NONE : it.placeOf(name);
    }

    public int waited(int machine, int what) {
        Machine it = machineAt(machine);
        if (it == null || what < 0 || what > 1) {
            return NONE;
        }
        return it.counted(what == 0 ? Machine.WAITED : Machine.LONGEST);
    }

    // ---- what would come ----

    public int settle(int machine) {
        Machine probe = probeOf(machine);
        if (probe == null) {
            return NONE;
        }
        int waits = 0;
        while (waits < MOST_WAITS && !probe.isSettled()) {
            probe.beat(WAIT, 0, 0, beats + waits);
            waits++;
        }
        return waits;
    }

    public int drained(int machine, int k, int what) {
        Machine probe = probeOf(machine);
        if (probe == null || k < 0 || what < 0 || what > 3) {
            return NONE;
        }
        trial.drain(probe, beats);
        int beat = trial.beatOf(k);
        if (beat == NONE) {
            return NOTHING;
        }
        return what == 3 ? beat : Entry.part(trial.outIn(beat), what);
    }

    public int drains(int machine) {
        Machine probe = probeOf(machine);
        if (probe == null) {
            return NONE;
        }
        trial.drain(probe, beats);
        return trial.countOuts();
    }

    public int unlike(int one, int other) {
        Machine probe = probeOf(one);
        Machine otherProbe = probeOf(other);
        if (probe == null || otherProbe == null) {
            return NONE;
        }
        if (one == other) {
            return NOTHING;
        }
        trial.drain(probe, beats);
        otherTrial.drain(otherProbe, beats);
        int most = Math.max(trial.countOuts(), otherTrial.countOuts());
        for (int k = 0; k < most; k++) {
            if (isUnlike(trial.outIn(trial.beatOf(k)), otherTrial.outIn(otherTrial.beatOf(k)))) {
                return k;
            }
        }
        return NOTHING;
    }

    public int turn(int machine, int name) {
        Machine probe = probeOf(machine);
        if (probe == null || !isName(name)) {
            return NONE;
        }
        trial.drain(probe, beats);
        int beat = trial.beatOfName(name);
        return beat == NONE ? NOTHING : beat;
    }

    public int apart(int machine) {
        Machine it = machineAt(machine);
        return it == null ? NONE : it.countApart();
    }

    public int isLeast(int machine) {
        Machine it = machineAt(machine);
        if (it == null) {
            return NONE;
        }
        return it.isTopLeast() ? 1 : 0;
    }

    public int ahead(int n, int machine, int what) {
        Machine probe = probeOf(machine);
        if (probe == null || n < 0 || n > MOST_PLAN || !isPart(what)) {
            return NONE;
        }
        trial.follow(probe, plan, planAt, n, beats);
        return Entry.part(probe.top(), what);
    }

    public int differs(int n, int one, int other) {
        Machine probe = probeOf(one);
        Machine otherProbe = probeOf(other);
        if (probe == null || otherProbe == null || n < 1 || n > MOST_PLAN) {
            return NONE;
        }
        // one and the same MACHINE has one probe alone, which can't be led twice
        if (one == other) {
            return 0;
        }
        trial.follow(probe, plan, planAt, n, beats);
        otherTrial.follow(otherProbe, plan, planAt, n, beats);
        int unlike = 0;
        for (int beat = 0; beat < trial.length(); beat++) {
            if (isUnlike(trial.outIn(beat), otherTrial.outIn(beat))) {
                unlike++;
            }
        }
        return unlike;
    }

    // ---- how small they could be ----

    public int leastRow(int machine) {
        if (machine != SHIFT_ROW && machine != HANDING_ROW) {
            return NONE;
        }
        for (int cells = 1; cells <= MOST_CELLS; cells++) {
            if (isEnough(machine, cells, 0, LAST_WAITS)) {
                return cells;
            }
        }
        return NOTHING;
    }

    public int leastLevels() {
        for (int levels = 1; levels <= MOST_LEVELS; levels++) {
            if (isEnough(HEAP, levels, 0, 0)) {
                return levels;
            }
        }
        return NOTHING;
    }

    public int leastDeep() {
        for (int deep = 1; deep <= MOST_DEEP; deep++) {
            if (isEnough(BUCKETS, plan.buckets, deep, 0)) {
                return deep;
            }
        }
        return NOTHING;
    }

    // ---- what was, what would be ----

    public int swaps(int machine) {
        Machine it = machineAt(machine);
        return it == null ? NONE : it.countSwaps();
    }

    public int lands(int machine, int key) {
        Machine probe = probeOf(machine);
        if (probe == null || !isKey(key)) {
            return NONE;
        }
        int stamp = beats;
        probe.beat(PUT, key, 0, stamp);
        int waits = 0;
        int at = probe.slotOfStamp(stamp);
        while (waits < MOST_WAITS && at != NONE && !probe.isPlace(at)) {
            waits++;
            probe.beat(WAIT, 0, 0, stamp + waits);
            at = probe.slotOfStamp(stamp);
        }
        if (at == NONE) {
            return NOTHING;
        }
        return machine == SHIFT_ROW ? at : at * 100 + waits;
    }

    public int log(int machine, int k, int what) {
        Machine it = machineAt(machine);
        if (it == null || k < 0 || what < 0 || what > 3) {
            return NONE;
        }
        if (k >= it.logged()) {
            return NOTHING;
        }
        return what == 3 ? it.loggedBeat(k) : Entry.part(it.loggedEntry(k), what);
    }

    public int chance(int seed, int n, int machine, int what) {
        Machine probe = probeOf(machine);
        if (probe == null || seed < -1 || n < 1 || n > MOST_TRIED || what < 0 || what > 3) {
            return NONE;
        }
        dice.start(seed == -1 ? plan.seed : seed);
        int before = chanceCount(probe, what);
        int notLeast = 0;
        for (int i = 0; i < n; i++) {
            beatByChance(probe, beats + i);
            if (!probe.isTopLeast()) {
                notLeast++;
            }
        }
        return what == 3 ? notLeast : chanceCount(probe, what) - before;
    }

    // ---- undoing and images ----

    public int undo() {
        int latest = (pastNext + MOST_UNDONE - 1) % MOST_UNDONE;
        if (undoable == 0 || latest < 0 || latest >= past.length) {
            return NONE;
        }
        loadMoment(past[latest]);
        pastNext = latest;
        undoable--;
        return undoable;
    }

    public int keep() {
        saveMoment(image);
        hasImage = true;
        return beats;
    }

    public int back() {
        if (!hasImage) {
            return NONE;
        }
        loadMoment(image);
        undoable = 0;
        return beats;
    }

    public int count(int what) {
        switch (what) {
            case 0:
                return plan.row;
            case 1:
                return plan.levels;
            case 2:
                return plan.size();
            case 3:
                return planAt;
            case 4:
                return beats;
            case 5:
                return plan.namesTold();
            case 6:
                return undoable;
            case 7:
                return reader.taped();
            case 8:
                return plan.buckets;
            case 9:
                return plan.deep;
            default:
                return NONE;
        }
    }

    // ---- inside ----

    private static boolean isKey(int key) {
        return key >= 0 && key <= MOST_KEY;
    }

    private static boolean isName(int name) {
        return name >= 0 && name <= MOST_NAME;
    }

    private static boolean isPart(int what) {
        return what >= 0 && what <= 3;
    }

    /** By STAMPS; nothing has a number here that no STAMP has. */
    private static boolean isUnlike(int one, int other) {
        return Entry.part(one, Entry.STAMP) != Entry.part(other, Entry.STAMP);
    }

    private Machine machineAt(int machine) {
        return machine >= 0 && machine < machines.length ? machines[machine] : null;
    }

    /** A copy to try things on; null for no such MACHINE. */
    private Machine probeOf(int machine) {
        Machine it = machineAt(machine);
        if (it == null || machine >= probes.length) {
            return null;
        }
        Machine probe = probes[machine];
        if (probe != null) {
            probe.copyFrom(it);
        }
        return probe;
    }

    private int beat(int act, int key, int name) {
        if (beats >= MOST_BEATS) {
            return NOTHING;
        }
        remember();
        for (Machine each : machines) {
            if (each != null) {
                each.beat(act, key, name, beats);
            }
        }
        beats++;
        return beats;
    }

    private void startOver() {
        resetMachine(SHIFT_ROW, plan.row, 0);
        resetMachine(HANDING_ROW, plan.row, 0);
        resetMachine(HEAP, plan.levels, 0);
        resetMachine(BUCKETS, plan.buckets, plan.deep);
        beats = 0;
        planAt = 0;
        undoable = 0;
        hasImage = false;
    }

    private void resetMachine(int machine, int wide, int deep) {
        Machine it = machineAt(machine);
        if (it != null) {
            it.reset(wide, deep);
        }
    }

    private boolean isEnough(int machine, int wide, int deep, int waits) {
        Machine probe = probeOf(machine);
        if (probe == null) {
            return false;
        }
        probe.reset(wide, deep);
        trial.follow(probe, plan, 0, plan.size(), 0);
        for (int i = 0; i < waits; i++) {
            probe.beat(WAIT, 0, 0, plan.size() + i);
        }
        return probe.counted(Machine.LOST) + probe.counted(Machine.REFUSED) == 0;
    }

    private void beatByChance(Machine probe, int now) {
        int act = dice.draw(8);
        if (act <= 3) {
            int key = dice.draw(50);
            probe.beat(PUT, key, dice.draw(32), now);
        } else if (act <= 5) {
            probe.beat(TAKE, 0, 0, now);
        } else if (act == 6) {
            int key = dice.draw(50);
            probe.beat(BOTH, key, dice.draw(32), now);
        } else {
            probe.beat(CANCEL, 0, dice.draw(32), now);
        }
    }

    private static int chanceCount(Machine probe, int what) {
        switch (what) {
            case 0:
                return probe.counted(Machine.OUTS);
            case 1:
                return probe.counted(Machine.MISSES);
            default:
                return probe.counted(Machine.LOST) + probe.counted(Machine.REFUSED);
        }
    }

    private void remember() {
        if (pastNext < 0 || pastNext >= past.length) {
            return;
        }
        saveMoment(past[pastNext]);
        pastNext = (pastNext + 1) % MOST_UNDONE;
        undoable = Math.min(undoable + 1, MOST_UNDONE);
    }

    private void saveMoment(int[] moment) {
        if (moment == null || moment.length < MOMENT) {
            return;
        }
        moment[MOMENT_BEATS] = beats;
        moment[MOMENT_PLAN] = planAt;
        for (int m = 0; m < MACHINES; m++) {
            Machine it = machineAt(m);
            if (it != null) {
                it.saveTo(moment, MOMENT_MACHINES + m * Machine.STATE);
            }
        }
    }

    private void loadMoment(int[] moment) {
        if (moment == null || moment.length < MOMENT) {
            return;
        }
        beats = moment[MOMENT_BEATS];
        planAt = moment[MOMENT_PLAN];
        for (int m = 0; m < MACHINES; m++) {
            Machine it = machineAt(m);
            if (it != null) {
                it.loadFrom(moment, MOMENT_MACHINES + m * Machine.STATE);
            }
        }
    }

    /** An ENTRY in one number, KEY, STAMP, NAME, MARKED from the top, so that LESS compares the upper bits. */
    private static final class Entry {
        static final int EMPTY = -1;
        static final int KEY = 0;
        static final int NAME = 1;
        static final int STAMP = 2;

        static int make(int key, int name, int stamp) {
            return key << 20 | stamp << 6 | name << 1;
        }

        static boolean less(int one, int other) {
            return one >> 6 < other >> 6;
        }

        static int keyOf(int entry) {
            return entry >> 20;
        }

        static int stampOf(int entry) {
            return entry >> 6 & 16383;
        }

        static int nameOf(int entry) {
            return entry >> 1 & 31;
        }

        static boolean isMarked(int entry) {
            return entry != EMPTY && (entry & 1) == 1;
        }

        static boolean isOpenWith(int entry, int name) {
            return entry != EMPTY && !isMarked(entry) && nameOf(entry) == name;
        }

        static int part(int entry, int what) {
            if (entry == EMPTY) {
                return NOTHING;
            }
            switch (what) {
                case KEY:
                    return keyOf(entry);
                case NAME:
                    return nameOf(entry);
                case STAMP:
                    return stampOf(entry);
                default:
                    return isMarked(entry) ? 1 : 0;
            }
        }
    }

    /** What the four have in common; each kind says how ENTRIES come, move on and go. */
    private abstract static class Machine {
        static final int LOST = 0;
        static final int REFUSED = 1;
        static final int MISSES = 2;
        static final int SWEPT = 3;
        static final int OUTS = 4;
        static final int WAITED = 5;
        static final int LONGEST = 6;
        static final int COUNTERS = 7;
        private static final int LATEST = 7;
        private static final int LOG_LENGTH = 20;
        private static final int LOG_ENTRIES = 8;
        private static final int LOG_BEATS = LOG_ENTRIES + LOG_LENGTH;
        private static final int SLOTS = LOG_BEATS + LOG_LENGTH;
        private static final int ROOM = 64;
        static final int STATE = SLOTS + ROOM;

        /** CELLS, levels or BUCKETS. */
        int wide;
        /** PLACES of a BUCKET; 0 where there are none. */
        int deep;
        private final int[] state = new int[STATE];
        /** Slots below this one KEEP their ENTRIES; those from it on, below all, have ENTRIES on their way. */
        private final int keeping;
        private final int all;

        Machine(int keeping, int all, int wide, int deep) {
            this.keeping = keeping;
            this.all = all;
            this.wide = wide;
            this.deep = deep;
            wipe();
        }

        abstract int topSlot();

        abstract boolean hasPlace(int i);

        abstract boolean isMoving();

        abstract void enter(int entry);

        abstract void dropTop();

        abstract void replaceTop(int entry);

        void moveOn() {
        }

        void makeReady() {
        }

        void callOff(int i) {
            int entry = slot(i);
            if (entry != Entry.EMPTY) {
                setSlot(i, entry | 1);
            }
        }

        private void wipe() {
            for (int i = 0; i < state.length; i++) {
                state[i] = i < SLOTS && i != LATEST ? 0 : Entry.EMPTY;
            }
        }

        final void reset(int newWide, int newDeep) {
            wide = newWide;
            deep = newDeep;
            wipe();
            makeReady();
        }

        final void copyFrom(Machine other) {
            wide = other.wide;
            deep = other.deep;
            System.arraycopy(other.state, 0, state, 0, STATE);
        }

        final void saveTo(int[] moment, int at) {
            if (at >= 0 && at <= moment.length - STATE) {
                System.arraycopy(state, 0, moment, at, STATE);
            }
        }

        final void loadFrom(int[] moment, int at) {
            if (at >= 0 && at <= moment.length - STATE) {
                System.arraycopy(moment, at, state, 0, STATE);
            }
        }

        final int slot(int i) {
            return i >= 0 && i < ROOM ? state[SLOTS + i] : Entry.EMPTY;
        }

        final void setSlot(int i, int value) {
            if (i >= 0 && i < ROOM) {
                state[SLOTS + i] = value;
            }
        }

        final int counted(int what) {
            return what >= 0 && what < COUNTERS ? state[what] : 0;
        }

        final void countMore(int what) {
            if (what >= 0 && what < COUNTERS) {
                state[what]++;
            }
        }

        final int latest() {
            return state[LATEST];
        }

        final int top() {
            return slot(topSlot());
        }

        final boolean isPlace(int i) {
            return i >= 0 && i < keeping;
        }

        final boolean isSettled() {
            return !isMoving() && !Entry.isMarked(top());
        }

        /** The acts stand here at length, and not in methods of their own, to keep the calls shallow. */
        final void beat(int act, int key, int name, int now) {
            state[LATEST] = Entry.EMPTY;
            moveOn();
            int fresh = Entry.make(key, name, now);
            int called = act == CANCEL || act == RENEW ? slotToCancel(name) : NONE;
            switch (act) {
                case PUT:
                    enter(fresh);
                    break;
                case TAKE:
                    if (letTopGo(now)) {
                        dropTop();
                    }
                    break;
                case BOTH:
                    if (letTopGo(now)) {
                        replaceTop(fresh);
                    } else {
                        enter(fresh);
                    }
                    break;
                case RENEW:
                    if (called != NONE) {
                        callOff(called);
                        enter(fresh);
                    }
                    break;
                default:
                    // CANCEL; or WAIT, which calls nothing off
                    callOff(called);
                    if (Entry.isMarked(top())) {
                        countMore(SWEPT);
                        dropTop();
                    }
                    break;
            }
        }

        /** Counts HEAD as OUT, SWEPT or missing; whether there is one to go. */
        private boolean letTopGo(int now) {
            int going = top();
            if (going == Entry.EMPTY) {
                countMore(MISSES);
            } else if (Entry.isMarked(going)) {
                countMore(MISSES);
                countMore(SWEPT);
            } else {
                noteOut(going, now);
            }
            return going != Entry.EMPTY;
        }

        private void noteOut(int entry, int now) {
            int at = state[OUTS] % LOG_LENGTH;
            if (at >= 0) {
                state[LOG_ENTRIES + at] = entry;
                state[LOG_BEATS + at] = now;
            }
            int waits = now - Entry.stampOf(entry);
            state[LATEST] = entry;
            state[OUTS]++;
            state[WAITED] += waits;
            state[LONGEST] = Math.max(state[LONGEST], waits);
        }

        final int logged() {
            return Math.min(state[OUTS], LOG_LENGTH);
        }

        final int loggedEntry(int k) {
            return k >= 0 && k < logged() ? state[LOG_ENTRIES + logPlace(k)] : Entry.EMPTY;
        }

        final int loggedBeat(int k) {
            return k >= 0 && k < logged() ? state[LOG_BEATS + logPlace(k)] : NONE;
        }

        private int logPlace(int k) {
            return Math.floorMod(state[OUTS] - 1 - k, LOG_LENGTH);
        }

        final int countSwaps() {
            int swaps = 0;
            for (int later = 0; later < logged(); later++) {
                int late = loggedEntry(later);
                for (int earlier = later + 1; earlier < logged(); earlier++) {
                    boolean wasThere = Entry.stampOf(late) < loggedBeat(earlier);
                    if (wasThere && Entry.less(late, loggedEntry(earlier))) {
                        swaps++;
                    }
                }
            }
            return swaps;
        }

        /** Of those with the NAME that aren't MARKED the one that came first; NONE without. */
        final int slotToCancel(int name) {
            int found = NONE;
            for (int i = 0; i < all; i++) {
                if (Entry.isOpenWith(slot(i), name)
                        && (found == NONE || Entry.stampOf(slot(i)) < Entry.stampOf(slot(found)))) {
                    found = i;
                }
            }
            return found;
        }

        final int placeOf(int name) {
            int i = slotToCancel(name);
            if (i == NONE) {
                return NOTHING;
            }
            return isPlace(i) ? i : ON_ITS_WAY;
        }

        final int slotOfStamp(int stamp) {
            for (int i = 0; i < all; i++) {
                if (slot(i) != Entry.EMPTY && Entry.stampOf(slot(i)) == stamp) {
                    return i;
                }
            }
            return NONE;
        }

        final int countEntries() {
            int entries = 0;
            for (int i = 0; i < all; i++) {
                entries += slot(i) == Entry.EMPTY ? 0 : 1;
            }
            return entries;
        }

        final int countMarked() {
            int marked = 0;
            for (int i = 0; i < all; i++) {
                marked += Entry.isMarked(slot(i)) ? 1 : 0;
            }
            return marked;
        }

        final int countNamed(int name) {
            int found = 0;
            for (int i = 0; i < all; i++) {
                found += Entry.isOpenWith(slot(i), name) ? 1 : 0;
            }
            return found;
        }

        final int countApart() {
            int couples = 0;
            for (int i = 0; i < keeping; i++) {
                for (int behind = i + 1; behind < keeping; behind++) {
                    couples += isLess(behind, i) ? 1 : 0;
                }
            }
            return couples;
        }

        final boolean isTopLeast() {
            int top = topSlot();
            for (int i = 0; i < all; i++) {
                if (isLess(i, top)) {
                    return false;
                }
            }
            return true;
        }

        private boolean isLess(int i, int other) {
            return slot(i) != Entry.EMPTY && slot(other) != Entry.EMPTY && Entry.less(slot(i), slot(other));
        }
    }

    private static final class ShiftRow extends Machine {
        ShiftRow() {
            super(MOST_CELLS, MOST_CELLS, Plan.USUAL_ROW, 0);
        }

        int topSlot() {
            return 0;
        }

        boolean hasPlace(int i) {
            return i >= 0 && i < wide;
        }

        boolean isMoving() {
            return false;
        }

        void enter(int entry) {
            int coming = entry;
            for (int i = 0; i < wide && coming != Entry.EMPTY; i++) {
                int there = slot(i);
                if (there == Entry.EMPTY || Entry.less(coming, there)) {
                    setSlot(i, coming);
                    coming = there;
                }
            }
            if (coming != Entry.EMPTY) {
                countMore(LOST);
            }
        }

        void dropTop() {
            closeUp(0);
        }

        void replaceTop(int entry) {
            closeUp(0);
            enter(entry);
        }

        /** Nothing is MARKED in this row: what is called off goes at once. */
        void callOff(int i) {
            if (hasPlace(i)) {
                closeUp(i);
            }
        }

        private void closeUp(int from) {
            for (int i = from; i < wide; i++) {
                setSlot(i, i + 1 < wide ? slot(i + 1) : Entry.EMPTY);
            }
        }
    }

    private static final class HandingRow extends Machine {
        /** Behind the slots of what CELLS KEEP stand those of what they HAND on. */
        private static final int HANDS = MOST_CELLS;

        HandingRow() {
            super(MOST_CELLS, HANDS + MOST_CELLS, Plan.USUAL_ROW, 0);
        }

        int topSlot() {
            return 0;
        }

        boolean hasPlace(int i) {
            return i >= 0 && i < wide;
        }

        int handedBy(int i) {
            return hasPlace(i) ? slot(HANDS + i) : Entry.EMPTY;
        }

        boolean isMoving() {
            for (int i = 0; i < wide; i++) {
                if (handedBy(i) != Entry.EMPTY) {
                    return true;
                }
            }
            return false;
        }

        void moveOn() {
            for (int i = wide - 1; i >= 0; i--) {
                int coming = handedBy(i);
                setSlot(HANDS + i, Entry.EMPTY);
                if (coming != Entry.EMPTY) {
                    comeTo(i + 1, coming);
                }
            }
        }

        void enter(int entry) {
            comeTo(0, entry);
        }

        private void comeTo(int i, int coming) {
            if (!hasPlace(i)) {
                countMore(LOST);
                return;
            }
            int there = slot(i);
            int next = hasPlace(i + 1) ? slot(i + 1) : Entry.EMPTY;
            if (there != Entry.EMPTY) {
                boolean stays = Entry.less(there, coming);
                setSlot(i, stays ? there : coming);
                setSlot(HANDS + i, stays ? coming : there);
            } else if (next != Entry.EMPTY && Entry.less(next, coming)) {
                setSlot(i, next);
                setSlot(i + 1, Entry.EMPTY);
                setSlot(HANDS + i, coming);
            } else {
                setSlot(i, coming);
            }
        }

        void dropTop() {
            for (int i = 0; i < wide; i++) {
                setSlot(i, hasPlace(i + 1) ? slot(i + 1) : Entry.EMPTY);
                setSlot(HANDS + i, handedBy(i + 1));
            }
        }

        void replaceTop(int entry) {
            setSlot(0, Entry.EMPTY);
            comeTo(0, entry);
        }
    }

    private static final class Heap extends Machine {
        private static final int COMES = 0;
        private static final int HOLE = 1;
        private static final int CHANGES = 2;

        /**
         * Slot j KEEPS the ENTRY of NODE j. There are slots for a level more than can be, and these stay
         * empty, so that what is behind the last level can be asked for like any other NODE.
         */
        private static final int NODES = 2 << MOST_LEVELS;
        private static final int TOKEN_ENTRY = NODES;
        private static final int TOKEN_NODE = TOKEN_ENTRY + MOST_LEVELS;
        private static final int TOKEN_KIND = TOKEN_NODE + MOST_LEVELS;
        private static final int FREE = TOKEN_KIND + MOST_LEVELS;

        Heap() {
            super(NODES, NODES + MOST_LEVELS, Plan.USUAL_LEVELS, 0);
            freeAll();
        }

        void makeReady() {
            freeAll();
        }

        private void freeAll() {
            for (int level = 0; level < wide; level++) {
                for (int node = 1 << level; node < 2 << level; node++) {
                    setSlot(FREE + node, (1 << (wide - level)) - 1);
                }
            }
        }

        int topSlot() {
            return 1;
        }

        boolean hasPlace(int i) {
            return i >= 1 && i < 1 << wide;
        }

        boolean hasTokenLevel(int level) {
            return level >= 1 && level < wide;
        }

        int freeBelow(int node) {
            return hasPlace(node) ? slot(FREE + node) : 0;
        }

        private void addFree(int node, int more) {
            if (hasPlace(node)) {
                setSlot(FREE + node, slot(FREE + node) + more);
            }
        }

        private int tokenNode(int level) {
            return hasTokenLevel(level) ? slot(TOKEN_NODE + level) : NONE;
        }

        int tokenPart(int level, int what) {
            int node = tokenNode(level);
            if (node == NONE) {
                return NOTHING;
            }
            switch (what) {
                case 0:
                    return node;
                case 1:
                    return slot(TOKEN_KIND + level);
                default:
                    return Entry.part(slot(TOKEN_ENTRY + level), what - 2);
            }
        }

        private void setToken(int level, int node, int kind, int entry) {
            if (hasTokenLevel(level)) {
                setSlot(TOKEN_NODE + level, node);
                setSlot(TOKEN_KIND + level, kind);
                setSlot(TOKEN_ENTRY + level, entry);
            }
        }

        boolean isMoving() {
            for (int level = 1; level < wide; level++) {
                if (tokenNode(level) != NONE) {
                    return true;
                }
            }
            return false;
        }

        void moveOn() {
            for (int level = wide - 1; level >= 1; level--) {
                int node = tokenNode(level);
                int kind = slot(TOKEN_KIND + level);
                int entry = slot(TOKEN_ENTRY + level);
                setToken(level, NONE, NONE, Entry.EMPTY);
                if (node == NONE) {
                    continue;
                }
                if (kind == COMES) {
                    comeTo(level, node, entry);
                } else if (kind == HOLE) {
                    fillHole(level, node);
                } else {
                    changeTo(level, node, entry);
                }
            }
        }

        void enter(int entry) {
            if (freeBelow(1) <= 0) {
                countMore(REFUSED);
                return;
            }
            addFree(1, -1);
            comeTo(0, 1, entry);
        }

        void dropTop() {
            setSlot(1, Entry.EMPTY);
            addFree(1, 1);
            fillHole(0, 1);
        }

        void replaceTop(int entry) {
            changeTo(0, 1, entry);
        }

        private void comeTo(int level, int node, int coming) {
            int there = slot(node);
            if (there == Entry.EMPTY) {
                setSlot(node, coming);
                return;
            }
            boolean stays = Entry.less(there, coming);
            setSlot(node, stays ? there : coming);
            int below = freeBelow(2 * node) > 0 ? 2 * node : 2 * node + 1;
            addFree(below, -1);
            setToken(level + 1, below, COMES, stays ? coming : there);
        }

        private void fillHole(int level, int node) {
            int below = lessBehind(node);
            if (below == NONE) {
                return;
            }
            setSlot(node, slot(below));
            setSlot(below, Entry.EMPTY);
            addFree(below, 1);
            setToken(level + 1, below, HOLE, Entry.EMPTY);
        }

        private void changeTo(int level, int node, int entry) {
            int below = lessBehind(node);
            if (below == NONE || !Entry.less(slot(below), entry)) {
                setSlot(node, entry);
                return;
            }
            setSlot(node, slot(below));
            setSlot(below, Entry.EMPTY);
            setToken(level + 1, below, CHANGES, entry);
        }

        private int lessBehind(int node) {
            int left = slot(2 * node);
            int right = slot(2 * node + 1);
            if (left == Entry.EMPTY) {
                return right == Entry.EMPTY ? NONE : 2 * node + 1;
            }
            return right != Entry.EMPTY && Entry.less(right, left) ? 2 * node + 1 : 2 * node;
        }
    }

    private static final class Buckets extends Machine {
        Buckets() {
            super(MOST_BUCKETS * MOST_DEEP, MOST_BUCKETS * MOST_DEEP, Plan.USUAL_BUCKETS, Plan.USUAL_DEEP);
        }

        int topSlot() {
            for (int i = 0; i < wide * deep; i++) {
                if (slot(i) != Entry.EMPTY) {
                    return i;
                }
            }
            return NONE;
        }

        boolean hasPlace(int i) {
            return i >= 0 && i < wide * deep;
        }

        boolean isMoving() {
            return false;
        }

        void enter(int entry) {
            int first = Entry.keyOf(entry) * wide / 1000 * deep;
            for (int i = first; i < first + deep; i++) {
                if (slot(i) == Entry.EMPTY) {
                    setSlot(i, entry);
                    return;
                }
            }
            countMore(LOST);
        }

        /** HEAD is the first of its BUCKET, so the others of that BUCKET are the DEEP - 1 PLACES behind it. */
        void dropTop() {
            int first = topSlot();
            if (first == NONE) {
                return;
            }
            int last = first + deep - 1;
            for (int i = first; i < last; i++) {
                setSlot(i, slot(i + 1));
            }
            setSlot(last, Entry.EMPTY);
        }

        void replaceTop(int entry) {
            dropTop();
            enter(entry);
        }
    }

    /** What is OUT of a MACHINE, BEAT by BEAT, while something is tried on it. */
    private static final class Trial {
        private final int[] outs = new int[MOST_TRIED];
        private int length;

        int length() {
            return length;
        }

        void drain(Machine probe, int now) {
            length = 0;
            for (int i = 0; i < MOST_TRIED; i++) {
                probe.beat(TAKE, 0, 0, now + i);
                note(probe.latest());
            }
        }

        /** The BEATS of the PLAN that are left, n at most. */
        void follow(Machine probe, Plan plan, int from, int n, int now) {
            length = 0;
            for (int i = 0; i < n && from + i < plan.size(); i++) {
                int line = from + i;
                probe.beat(plan.actAt(line), plan.keyAt(line), plan.nameAt(line), now + i);
                note(probe.latest());
            }
        }

        private void note(int entry) {
            if (length >= 0 && length < outs.length) {
                outs[length] = entry;
                length++;
            }
        }

        int outIn(int beat) {
            return beat >= 0 && beat < length && beat < outs.length ? outs[beat] : Entry.EMPTY;
        }

        int countOuts() {
            int found = 0;
            for (int beat = 0; beat < length; beat++) {
                found += outIn(beat) == Entry.EMPTY ? 0 : 1;
            }
            return found;
        }

        int beatOf(int k) {
            int found = 0;
            for (int beat = 0; beat < length; beat++) {
                if (outIn(beat) != Entry.EMPTY) {
                    if (found == k) {
                        return beat;
                    }
                    found++;
                }
            }
            return NONE;
        }

        int beatOfName(int name) {
            for (int beat = 0; beat < length; beat++) {
                if (Entry.isOpenWith(outIn(beat), name)) {
                    return beat;
                }
            }
            return NONE;
        }
    }

    private static final class Dice {
        private long last;

        void start(int seed) {
            last = seed;
        }

        int draw(int below) {
            last = (last * 1103515245L + 12345L) & 0x7FFFFFFFL;
            return below > 0 ? (int) ((last / 65536L) % below) : 0;
        }
    }

    /** What a TEXT tells. */
    private static final class Plan {
        static final int USUAL_ROW = 8;
        static final int USUAL_LEVELS = 3;
        static final int USUAL_BUCKETS = 4;
        static final int USUAL_DEEP = 4;
        private static final int MOST_NAMES = 24;

        int row = USUAL_ROW;
        int levels = USUAL_LEVELS;
        int buckets = USUAL_BUCKETS;
        int deep = USUAL_DEEP;
        int seed;
        private final int[] acts = new int[MOST_PLAN];
        private final int[] keys = new int[MOST_PLAN];
        private final int[] names = new int[MOST_PLAN];
        private int size;
        private final int[] told = new int[MOST_NAMES];
        private int toldCount;

        void clear() {
            row = USUAL_ROW;
            levels = USUAL_LEVELS;
            buckets = USUAL_BUCKETS;
            deep = USUAL_DEEP;
            seed = 0;
            size = 0;
            toldCount = 0;
        }

        int size() {
            return size;
        }

        boolean isFull() {
            return size >= MOST_PLAN;
        }

        void add(int act, int key, int name) {
            if (size >= 0 && size < MOST_PLAN) {
                acts[size] = act;
                keys[size] = key;
                names[size] = name;
                size++;
            }
        }

        int actAt(int i) {
            return i >= 0 && i < MOST_PLAN ? acts[i] : WAIT;
        }

        int keyAt(int i) {
            return i >= 0 && i < MOST_PLAN ? keys[i] : 0;
        }

        int nameAt(int i) {
            return i >= 0 && i < MOST_PLAN ? names[i] : 0;
        }

        int namesTold() {
            return toldCount;
        }

        boolean isFullOfNames() {
            return toldCount >= MOST_NAMES;
        }

        int numberOf(int letters) {
            for (int i = 0; i < toldCount && i < MOST_NAMES; i++) {
                if (told[i] == letters) {
                    return i;
                }
            }
            return NONE;
        }

        int tell(int letters) {
            if (toldCount < 0 || toldCount >= MOST_NAMES) {
                return 0;
            }
            told[toldCount] = letters;
            toldCount++;
            return toldCount - 1;
        }
    }

    /**
     * The TAPE, and how a TEXT is read from it.
     *
     * <p>Reading goes on behind a FAULT; since it goes from left to right and, at one place, asks for the
     * least FAULT first, the one that was found first is the one to tell.
     */
    private static final class Reader {
        private static final int MOST_TAPE = 700;
        private static final int MOST_LETTERS = 6;

        private static final int END = 0;
        private static final int WORD = 1;
        private static final int NUMBER = 2;
        private static final int SEMICOLON = 3;
        private static final int BLANK = 4;
        private static final int STRANGE = 5;

        private static final int NOT_HERE = 1;
        private static final int TOO_MUCH = 2;
        private static final int TOLD_ALREADY = 3;
        private static final int NOT_TOLD = 4;

        private static final int WORD_ROW = 6;
        private static final int WORD_LEVELS = 7;
        private static final int WORD_BUCKETS = 8;
        private static final int WORD_SEED = 9;
        private static final int WORDS = 10;

        private static final int NUMBER_TOO_BIG = 1000000;

        private final byte[] tape = new byte[MOST_TAPE];
        private int taped;
        private int limit;
        private int kind;
        private int start;
        private int end;
        private int settingsTold;
        private int faultKind;
        private int faultPlace = NONE;

        int taped() {
            return taped;
        }

        int faultKind() {
            return faultKind;
        }

        int faultPlace() {
            return faultPlace;
        }

        boolean hasRoomFor(int bytes) {
            return taped + bytes <= MOST_TAPE;
        }

        void addFour(int bytes) {
            for (int shift = 24; shift >= 0; shift -= 8) {
                if (taped >= 0 && taped < MOST_TAPE) {
                    tape[taped] = (byte) (bytes >> shift);
                    taped++;
                }
            }
        }

        /** How many LINES; NONE with a FAULT. The TAPE is empty behind it. */
        int read(int n, Plan into) {
            limit = n;
            end = 0;
            settingsTold = 0;
            faultKind = 0;
            faultPlace = NONE;
            into.clear();
            taped = 0;
            int lines = 0;
            step();
            while (kind != END && faultKind == 0 && lines <= MOST_TAPE) {
                readLine(into);
                lines++;
            }
            return faultKind == 0 ? lines : NONE;
        }

        private void readLine(Plan into) {
            int word = wordHere();
            if (word == NONE) {
                fail(NOT_HERE);
            } else if (word >= WORD_ROW) {
                readSetting(into, word);
            } else {
                readAct(into, word);
            }
            if (kind != SEMICOLON) {
                fail(NOT_HERE);
            }
            step();
        }

        private void readSetting(Plan into, int word) {
            if ((settingsTold >> word & 1) == 1) {
                fail(TOLD_ALREADY);
            }
            settingsTold |= 1 << word;
            step();
            switch (word) {
                case WORD_ROW:
                    into.row = readNumber(1, MOST_CELLS);
                    break;
                case WORD_LEVELS:
                    into.levels = readNumber(1, MOST_LEVELS);
                    break;
                case WORD_BUCKETS:
                    into.buckets = readNumber(1, MOST_BUCKETS);
                    into.deep = readNumber(1, MOST_DEEP);
                    break;
                default:
                    into.seed = readNumber(0, 99999);
                    break;
            }
        }

        private void readAct(Plan into, int act) {
            if (into.isFull()) {
                fail(TOO_MUCH);
            }
            step();
            int name = 0;
            int key = 0;
            if (act != TAKE && act != WAIT) {
                name = readName(into, act == CANCEL || act == RENEW);
            }
            if (act == PUT || act == BOTH || act == RENEW) {
                key = readNumber(0, MOST_KEY);
            }
            into.add(act, key, name);
        }

        private int readNumber(int least, int most) {
            int value = least;
            if (kind != NUMBER) {
                fail(NOT_HERE);
            } else {
                value = numberHere();
                if (value < least || value > most) {
                    fail(TOO_MUCH);
                }
            }
            step();
            return value;
        }

        private int readName(Plan into, boolean mustBeTold) {
            if (kind != WORD || end - start > MOST_LETTERS || wordHere() != NONE) {
                fail(NOT_HERE);
            }
            int letters = lettersHere();
            int name = into.numberOf(letters);
            if (name == NONE) {
                if (into.isFullOfNames()) {
                    fail(TOO_MUCH);
                }
                if (mustBeTold) {
                    fail(NOT_TOLD);
                }
                name = into.tell(letters);
            }
            step();
            return name;
        }

        private void fail(int what) {
            if (faultKind == 0) {
                faultKind = what;
                faultPlace = start;
            }
        }

        private void step() {
            int at = end;
            while (at < limit && kindOf(signAt(at)) == BLANK) {
                at++;
            }
            start = at;
            kind = at < limit ? kindOf(signAt(at)) : END;
            if (kind == WORD || kind == NUMBER) {
                while (at < limit && kindOf(signAt(at)) == kind) {
                    at++;
                }
            } else if (kind != END) {
                at++;
            }
            end = at;
        }

        private int signAt(int i) {
            return i >= 0 && i < MOST_TAPE ? tape[i] & 255 : 0;
        }

        private static int kindOf(int sign) {
            if (sign >= 'a' && sign <= 'z') {
                return WORD;
            }
            if (sign >= '0' && sign <= '9') {
                return NUMBER;
            }
            if (sign == ' ' || sign == '\n') {
                return BLANK;
            }
            return sign == ';' ? SEMICOLON : STRANGE;
        }

        private int numberHere() {
            int value = 0;
            for (int i = start; i < end; i++) {
                value = Math.min(value * 10 + signAt(i) - '0', NUMBER_TOO_BIG);
            }
            return value;
        }

        private int lettersHere() {
            int letters = 0;
            for (int i = 0; i < MOST_LETTERS; i++) {
                int letter = start + i < end ? signAt(start + i) - 'a' + 1 : 0;
                letters = letters << 5 | letter & 31;
            }
            return letters;
        }

        /** The word of the language that stands here, an act or a setting; NONE: there is none such. */
        private int wordHere() {
            if (kind != WORD) {
                return NONE;
            }
            for (int word = 0; word < WORDS; word++) {
                if (isHere(spelling(word))) {
                    return word;
                }
            }
            return NONE;
        }

        private boolean isHere(String word) {
            if (word.length() != end - start) {
                return false;
            }
            for (int i = 0; i < word.length(); i++) {
                if (word.charAt(i) != signAt(start + i)) {
                    return false;
                }
            }
            return true;
        }

        private static String spelling(int word) {
            switch (word) {
                case PUT:
                    return "put";
                case TAKE:
                    return "take";
                case BOTH:
                    return "both";
                case WAIT:
                    return "wait";
                case CANCEL:
                    return "cancel";
                case RENEW:
                    return "renew";
                case WORD_ROW:
                    return "row";
                case WORD_LEVELS:
                    return "levels";
                case WORD_BUCKETS:
                    return "buckets";
                default:
                    return "seed";
            }
        }
    }
}
