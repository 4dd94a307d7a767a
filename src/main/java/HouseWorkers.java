/**
 * Workers of a house that step by turns under one monitor: questions on versions that they pin,
 * writers and rounds of reasoning that commit by their numbers, streams that get each version once;
 * some fail, some are cancelled; what is kept, who ends when.
 */
public final class HouseWorkers {
    public static final int BAD = -1;
    public static final int NO = -2;
    public static final int FULL = -3;

    private static final int CELLS = 16;
    private static final int MOST_WORKERS = 30;
    private static final int MOST_STEPS = 20;
    private static final int MOST_FAILS_AT = 30;
    private static final int MOST_IN_A_RUN = 1000;
    private static final int FACTOR = 31;
    private static final int NO_VERSION = -1;

    private static final int QUESTION = 0;
    private static final int WRITER = 1;
    private static final int REASONING = 2;
    private static final int STREAM = 3;

    // What a turn came to; the last three also say how a worker ended.
    private static final int NOTHING = 0;
    private static final int STEPPED = 1;
    private static final int DONE = 2;
    private static final int FAILED = 3;
    private static final int CANCELLED = 4;

    private final Store store = new Store();
    private final Worker[] workers = new Worker[MOST_WORKERS];
    private final Ends ends = new Ends();
    private int begun = 0;
    private boolean closed = false;
    private int turnsThatDid = 0;
    private int turnsThatWaited = 0;
    // No worker with a number below this one can hold up a commit any more.
    private int front = 0;

    public HouseWorkers() {
    }

    public int put(int cell, int v) {
        if (!isCell(cell)) {
            return BAD;
        }
        if (begun > 0) {
            return NO;
        }
        store.setAtFirst(cell, v);
        return 1;
    }

    public int question(int steps, int failsAt, int first) {
        if (!areSteps(steps, failsAt) || !isCell(first)) {
            return BAD;
        }
        int refusal = refusal();
        return refusal != 0 ? refusal : begin(new Question(steps, failsAt, first, store.latest()));
    }

    public int writer(int steps, int failsAt, int first, int by) {
        if (!areSteps(steps, failsAt) || !isCell(first)) {
            return BAD;
        }
        int refusal = refusal();
        return refusal != 0 ? refusal : begin(new Writer(steps, failsAt, first, by));
    }

    public int reason(int rounds, int failsAt) {
        if (!areSteps(rounds, failsAt)) {
            return BAD;
        }
        int refusal = refusal();
        return refusal != 0 ? refusal : begin(new Reasoning(rounds, failsAt));
    }

    public int stream() {
        int refusal = refusal();
        return refusal != 0 ? refusal : begin(new Stream(store.latest()));
    }

    public int turn(int work) {
        Worker worker = find(work);
        return worker == null ? BAD : giveTurn(work, worker);
    }

    public int run(int most) {
        if (most < 0 || most > MOST_IN_A_RUN) {
            return BAD;
        }
        int did = 0;
        // Every row but the last does something, so there are no more rows than turns asked for.
        for (int row = 0; row < most && did < most; row++) {
            int inRow = giveRow(most - did);
            if (inRow == 0) {
                break;
            }
            did += inRow;
        }
        return did;
    }

    public int cancel(int work) {
        Worker worker = find(work);
        if (worker == null) {
            return BAD;
        }
        if (worker.hasEnded() || worker.isToStop()) {
            return 0;
        }
        worker.tellToStop();
        return 1;
    }

    public int close() {
        if (closed) {
            return NO;
        }
        closed = true;
        int stopped = 0;
        for (int number = 0; number < begun; number++) {
            Worker worker = find(number);
            if (worker != null && !worker.hasEnded()) {
                end(number, worker, CANCELLED);
                stopped++;
            }
        }
        return stopped;
    }

    public int told(int work, int what) {
        Worker worker = find(work);
        if (worker == null) {
            return BAD;
        }
        switch (what) {
            case 0:
                return worker.kind();
            case 1:
                return worker.howEnded();
            case 2:
                return worker.stepsDone();
            case 3:
                return worker.answer();
            case 4:
                return worker.version();
            case 5:
                return wouldDoNothing(work, worker) ? 1 : 0;
            default:
                return BAD;
        }
    }

    public int ended(int i, int what) {
        return ends.tell(i, what);
    }

    public int cell(int version, int cell) {
        if (!isCell(cell) || !store.has(version)) {
            return BAD;
        }
        return isKept(version) ? store.at(version, cell) : NO;
    }

    public int count(int what) {
        switch (what) {
            case 0:
                return store.latest() + 1;
            case 1:
                return keptVersions();
            case 2:
                return pinnedVersions();
            case 3:
                return turnsThatDid;
            case 4:
                return turnsThatWaited;
            case 5:
                return begun - ends.size();
            default:
                return BAD;
        }
    }

    private static boolean isCell(int place) {
        return place >= 0 && place < CELLS;
    }

    private static boolean areSteps(int steps, int failsAt) {
        return steps >= 1 && steps <= MOST_STEPS && failsAt >= 0 && failsAt <= MOST_FAILS_AT;
    }

    /** Why no worker can begin now: NO or FULL; 0 when one can. */
    private int refusal() {
        if (closed) {
            return NO;
        }
        return begun < MOST_WORKERS ? 0 : FULL;
    }

    private int begin(Worker worker) {
        int number = begun;
        workers[number] = worker;
        begun++;
        return number;
    }

    /** The worker with that number; null when there is none. */
    private Worker find(int number) {
        return number >= 0 && number < begun ? workers[number] : null;
    }

    private int giveRow(int most) {
        int did = 0;
        for (int number = 0; number < begun && did < most; number++) {
            Worker worker = find(number);
            if (worker != null && giveTurn(number, worker) != NOTHING) {
                did++;
            }
        }
        return did;
    }

    private int giveTurn(int number, Worker worker) {
        if (worker.hasEnded()) {
            return NOTHING;
        }
        if (wouldDoNothing(number, worker)) {
            turnsThatWaited++;
            return NOTHING;
        }
        // Counted before the worker can end, as its own turn belongs to what ended() tells.
        turnsThatDid++;
        int outcome = worker.act(store);
        if (outcome != STEPPED) {
            end(number, worker, outcome);
        }
        return outcome;
    }

    private void end(int number, Worker worker, int how) {
        worker.setEnded(how);
        ends.add(number, how, turnsThatDid);
    }

    private boolean wouldDoNothing(int number, Worker worker) {
        if (worker.hasEnded()) {
            return true;
        }
        if (worker.isToStop()) {
            return false;
        }
        if (worker.needsFront()) {
            return !isAtFront(number);
        }
        return worker.lacksVersion(store.latest());
    }

    /** Whether all writers and reasonings with lesser numbers have ended. */
    private boolean isAtFront(int number) {
        // Numbers are given in order and an end is for good, so the front never has to move back.
        while (front < number && !holdsUp(front)) {
            front++;
        }
        return front >= number;
    }

    private boolean holdsUp(int number) {
        Worker worker = find(number);
        return worker != null && worker.commits() && !worker.hasEnded();
    }

    /**
     * Asked anew each time: a version that is gone never comes back by this, as workers only ever
     * pin the latest one, and streams only begin behind it.
     */
    private boolean isKept(int version) {
        return version == store.latest() || isPinned(version) || isAwaited(version);
    }

    private boolean isPinned(int version) {
        for (int number = 0; number < begun; number++) {
            Worker worker = find(number);
            if (worker != null && !worker.hasEnded() && worker.pinned() == version) {
                return true;
            }
        }
        return false;
    }

    private boolean isAwaited(int version) {
        for (int number = 0; number < begun; number++) {
            Worker worker = find(number);
            if (worker != null && !worker.hasEnded() && worker.awaits(version)) {
                return true;
            }
        }
        return false;
    }

    private int keptVersions() {
        int kept = 0;
        for (int version = 0; version <= store.latest(); version++) {
            if (isKept(version)) {
                kept++;
            }
        }
        return kept;
    }

    private int pinnedVersions() {
        int pinned = 0;
        for (int version = 0; version <= store.latest(); version++) {
            if (isPinned(version)) {
                pinned++;
            }
        }
        return pinned;
    }

    /** All versions that were committed, one behind the other in one array that is made once. */
    private static final class Store {
        // Each worker commits once at most, and version 0 comes before them all.
        private static final int MOST_VERSIONS = MOST_WORKERS + 1;

        private final int[] cells = new int[MOST_VERSIONS * CELLS];
        private int latest = 0;

        int latest() {
            return latest;
        }

        boolean has(int version) {
            return version >= 0 && version <= latest;
        }

        int at(int version, int place) {
            return has(version) && isCell(place) ? cells[version * CELLS + place] : 0;
        }

        void setAtFirst(int place, int v) {
            if (isCell(place)) {
                cells[place] = v;
            }
        }

        int sumOf(int version) {
            int sum = 0;
            for (int place = 0; place < CELLS && has(version); place++) {
                sum += cells[version * CELLS + place];
            }
            return sum;
        }

        void copyLatestTo(int[] target) {
            for (int place = 0; place < CELLS && place < target.length; place++) {
                target[place] = cells[latest * CELLS + place];
            }
        }

        /** Makes these cells a new version: its number. */
        int commit(int[] row) {
            if (latest + 1 >= MOST_VERSIONS) {
                return NO_VERSION;
            }
            latest++;
            for (int place = 0; place < CELLS && place < row.length; place++) {
                cells[latest * CELLS + place] = row[place];
            }
            return latest;
        }
    }

    /** Who ended, how, and after how many turns, in the order of the ends. */
    private static final class Ends {
        private final int[] who = new int[MOST_WORKERS];
        private final int[] how = new int[MOST_WORKERS];
        private final int[] turns = new int[MOST_WORKERS];
        private int size = 0;

        int size() {
            return size;
        }

        void add(int number, int howEnded, int turnsSoFar) {
            if (size < MOST_WORKERS) {
                who[size] = number;
                how[size] = howEnded;
                turns[size] = turnsSoFar;
                size++;
            }
        }

        int tell(int i, int what) {
            if (what < 0 || what > 2) {
                return BAD;
            }
            if (i < 0 || i >= size) {
                return NO;
            }
            if (what == 0) {
                return who[i];
            }
            return what == 1 ? how[i] : turns[i];
        }
    }

    /** What all workers have in common; the kinds below say what is their own. */
    private abstract static class Worker {
        private final int kind;
        private final int steps;
        private final int failsAt;
        private int did = 0;
        private int howEnded = 0;
        private boolean toStop = false;

        Worker(int kind, int steps, int failsAt) {
            this.kind = kind;
            this.steps = steps;
            this.failsAt = failsAt;
        }

        final int kind() {
            return kind;
        }

        final int stepsDone() {
            return did;
        }

        final boolean hasStepsLeft() {
            return did < steps;
        }

        final int howEnded() {
            return howEnded;
        }

        final boolean hasEnded() {
            return howEnded != 0;
        }

        final void setEnded(int how) {
            howEnded = how;
        }

        final boolean isToStop() {
            return toStop;
        }

        final void tellToStop() {
            toStop = true;
        }

        final boolean commits() {
            return kind == WRITER || kind == REASONING;
        }

        /** A turn that does something: what it came to. */
        final int act(Store store) {
            if (toStop) {
                return CANCELLED;
            }
            if (!hasStepsLeft()) {
                finish(store);
                return DONE;
            }
            if (did + 1 == failsAt) {
                return FAILED;
            }
            step(store);
            did++;
            return hasStepsLeft() || commits() ? STEPPED : DONE;
        }

        abstract void step(Store store);

        /** What is left to do in the turn behind the last step. */
        void finish(Store store) {
        }

        /** Whether its next turn waits for the writers and reasonings with lesser numbers. */
        boolean needsFront() {
            return false;
        }

        /** Whether its next turn waits for a version behind the latest one. */
        boolean lacksVersion(int latest) {
            return false;
        }

        int pinned() {
            return NO_VERSION;
        }

        boolean awaits(int version) {
            return false;
        }

        int answer() {
            return 0;
        }

        abstract int version();
    }

    private static final class Question extends Worker {
        private final int first;
        private final int version;
        private int answer = 0;

        Question(int steps, int failsAt, int first, int version) {
            super(QUESTION, steps, failsAt);
            this.first = first;
            this.version = version;
        }

        void step(Store store) {
            int place = Math.floorMod(first + stepsDone(), CELLS);
            answer = FACTOR * answer + store.at(version, place);
        }

        int pinned() {
            return version;
        }

        int answer() {
            return answer;
        }

        int version() {
            return version;
        }
    }

    private static final class Writer extends Worker {
        private final int first;
        private final int by;
        private final int[] draft = new int[CELLS];
        private int committed = NO_VERSION;

        Writer(int steps, int failsAt, int first, int by) {
            super(WRITER, steps, failsAt);
            this.first = first;
            this.by = by;
        }

        void step(Store store) {
            draft[Math.floorMod(first + stepsDone(), CELLS)] += by;
        }

        void finish(Store store) {
            // The draft is needed no more, so it can hold the sums.
            for (int place = 0; place < CELLS; place++) {
                draft[place] += store.at(store.latest(), place);
            }
            committed = store.commit(draft);
        }

        boolean needsFront() {
            return !hasStepsLeft();
        }

        int version() {
            return committed;
        }
    }

    private static final class Reasoning extends Worker {
        private final int[] cells = new int[CELLS];
        private int base = NO_VERSION;
        private int committed = NO_VERSION;

        Reasoning(int rounds, int failsAt) {
            super(REASONING, rounds, failsAt);
        }

        void step(Store store) {
            if (stepsDone() == 0) {
                base = store.latest();
                store.copyLatestTo(cells);
            }
            spread();
        }

        /** Goes downwards, so that each cell still meets the old value of the one before it. */
        private void spread() {
            int last = cells[CELLS - 1];
            for (int place = CELLS - 1; place > 0; place--) {
                cells[place] = Math.max(cells[place], cells[place - 1]);
            }
            cells[0] = Math.max(cells[0], last);
        }

        void finish(Store store) {
            committed = store.commit(cells);
        }

        boolean needsFront() {
            return stepsDone() == 0;
        }

        int pinned() {
            return base;
        }

        int version() {
            return committed;
        }
    }

    private static final class Stream extends Worker {
        // Far more than there can be versions, so that it is never done.
        private static final int ENDLESS = 1_000_000;

        private int got;
        private int answer = 0;

        Stream(int latest) {
            super(STREAM, ENDLESS, 0);
            this.got = latest;
        }

        void step(Store store) {
            got++;
            answer = FACTOR * answer + store.sumOf(got);
        }

        boolean lacksVersion(int latest) {
            return got >= latest;
        }

        boolean awaits(int version) {
            return version > got;
        }

        int answer() {
            return answer;
        }

        int version() {
            return got;
        }
    }
}
