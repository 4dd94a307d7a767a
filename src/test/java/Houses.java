import java.util.ArrayList;
import java.util.List;

/** Houses in the states that the tests begin with, and what they do with them over and over. */
final class Houses {
    static final int QUESTION = 0;
    static final int WRITER = 1;
    static final int REASONING = 2;
    static final int STREAM = 3;
    static final int KINDS = 4;
    static final int MOST_WORKERS = 30;
    static final int LEAST = Integer.MIN_VALUE;
    static final int GREATEST = Integer.MAX_VALUE;

    private Houses() {
    }

    /** Cell c of version 0 has c + 1. */
    static HouseWorkers counted() {
        HouseWorkers house = new HouseWorkers();
        for (int cell = 0; cell < 16; cell++) {
            house.put(cell, cell + 1);
        }
        return house;
    }

    /** Has as many workers as can begin: questions of one step each. */
    static HouseWorkers full() {
        HouseWorkers house = new HouseWorkers();
        for (int i = 0; i < MOST_WORKERS; i++) {
            house.question(1, 0, 0);
        }
        return house;
    }

    static HouseWorkers closed() {
        HouseWorkers house = new HouseWorkers();
        house.close();
        return house;
    }

    /** Begins a worker of that kind with one step that fails at failsAt (streams never do). */
    static int begin(HouseWorkers house, int kind, int failsAt) {
        switch (kind) {
            case QUESTION:
                return house.question(1, failsAt, 0);
            case WRITER:
                return house.writer(1, failsAt, 0, 1);
            case REASONING:
                return house.reason(1, failsAt);
            default:
                return house.stream();
        }
    }

    static int begin(HouseWorkers house, int kind) {
        return begin(house, kind, 0);
    }

    /** A new writer adds 1 to cell 0 and commits that; no other must hold it up. */
    static int commitOne(HouseWorkers house) {
        int writer = house.writer(1, 0, 0, 1);
        house.turn(writer);
        house.turn(writer);
        return writer;
    }

    /** The worker is cancelled, and gets the turn that it ends in. */
    static void stop(HouseWorkers house, int work) {
        house.cancel(work);
        house.turn(work);
    }

    /** All that can be asked of a house; of one with few workers and versions, in some 100 calls. */
    static int[] seen(HouseWorkers house) {
        List<Integer> seen = new ArrayList<>();
        for (int work = 0; work < MOST_WORKERS && house.told(work, 0) >= 0; work++) {
            for (int what = 0; what < 6; what++) {
                seen.add(house.told(work, what));
            }
        }
        for (int i = 0; i < MOST_WORKERS && house.ended(i, 0) >= 0; i++) {
            for (int what = 0; what < 3; what++) {
                seen.add(house.ended(i, what));
            }
        }
        for (int version = 0; version < house.count(0); version++) {
            for (int cell = 0; cell < 16; cell++) {
                seen.add(house.cell(version, cell));
            }
        }
        for (int what = 0; what < 6; what++) {
            seen.add(house.count(what));
        }
        return seen.stream().mapToInt(Integer::intValue).toArray();
    }
}
