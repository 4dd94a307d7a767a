import java.util.ArrayList;
import java.util.List;
import java.util.Random;

/** Runs of 512 calls each, drawn from fixed seeds, answered by HouseWorkers as by the Model. */
public final class RandomRunsTest {
    private static final int RUNS = 4000;
    private static final int CALLS = 512;
    private static final int[] FAR = {Integer.MIN_VALUE, Integer.MAX_VALUE, -1, 16, 30, 31, 1001};

    private final Random random;
    private final HouseWorkers house = new HouseWorkers();
    private final Model model = new Model();
    private final List<String> calls = new ArrayList<>();
    private int got;
    private int want;

    private RandomRunsTest(long seed) {
        random = new Random(seed);
    }

    public static void main(String[] args) {
        for (int seed = 0; seed < RUNS; seed++) {
            if (!new RandomRunsTest(seed).isAsDue()) {
                System.out.println("seed " + seed + " is not as due");
                System.exit(1);
            }
        }
        System.out.println("all answers are as due");
    }

    private boolean isAsDue() {
        for (int i = 0; i < 10; i++) {
            put();
        }
        // Some runs begin few workers and ask more of each.
        int beginning = 3 + random.nextInt(30);
        for (int i = calls.size(); i < CALLS; i++) {
            call(random.nextInt(100), beginning);
            if (got != want) {
                System.out.println(String.join("\n", calls));
                System.out.println("the last one answered " + got + ", due is " + want);
                return false;
            }
        }
        return true;
    }

    private void call(int draw, int beginning) {
        if (draw < beginning) {
            begin();
        } else if (draw < 60) {
            int work = oneOf(31);
            note("turn(" + work + ")", house.turn(work), model.turn(work));
        } else if (draw < 63) {
            int most = random.nextInt(3) == 0 ? oneOf(1001) : oneOf(20);
            note("run(" + most + ")", house.run(most), model.run(most));
        } else if (draw < 65) {
            int work = oneOf(31);
            note("cancel(" + work + ")", house.cancel(work), model.cancel(work));
        } else if (draw < 66) {
            put();
        } else if (draw == 66 && random.nextInt(5) == 0) {
            note("close()", house.close(), model.close());
        } else {
            ask(draw);
        }
    }

    private void begin() {
        int steps = random.nextInt(4) == 0 ? oneOf(22) : oneOf(6);
        int failsAt = random.nextInt(3) == 0 ? oneOf(random.nextBoolean() ? 8 : 32) : 0;
        int first = oneOf(16);
        int by = random.nextInt();
        switch (random.nextInt(4)) {
            case 0 -> note("question(" + steps + ", " + failsAt + ", " + first + ")",
                house.question(steps, failsAt, first), model.begin(0, steps, failsAt, first, 0));
            case 1 -> note("writer(" + steps + ", " + failsAt + ", " + first + ", " + by + ")",
                house.writer(steps, failsAt, first, by), model.begin(1, steps, failsAt, first, by));
            case 2 -> note("reason(" + steps + ", " + failsAt + ")",
                house.reason(steps, failsAt), model.begin(2, steps, failsAt, 0, 0));
            default -> note("stream()", house.stream(), model.begin(3, 1, 0, 0, 0));
        }
    }

    private void put() {
        int cell = oneOf(16);
        int v = random.nextInt();
        note("put(" + cell + ", " + v + ")", house.put(cell, v), model.put(cell, v));
    }

    private void ask(int draw) {
        if (draw < 76) {
            int work = oneOf(31);
            int what = oneOf(6);
            note("told(" + work + ", " + what + ")", house.told(work, what), model.told(work, what));
        } else if (draw < 80) {
            int i = oneOf(30);
            int what = oneOf(3);
            note("ended(" + i + ", " + what + ")", house.ended(i, what), model.ended(i, what));
        } else if (draw < 92) {
            int version = random.nextInt(4) == 0 ? oneOf(31) : oneOf(model.count(0));
            int cell = oneOf(16);
            note("cell(" + version + ", " + cell + ")", house.cell(version, cell), model.cell(version, cell));
        } else {
            int what = oneOf(6);
            note("count(" + what + ")", house.count(what), model.count(what));
        }
    }

    /** A number of 0 .. bound - 1, and now and then one that no call takes. */
    private int oneOf(int bound) {
        return random.nextInt(40) == 0 ? FAR[random.nextInt(FAR.length)] : random.nextInt(bound);
    }

    private void note(String call, int fromHouse, int fromModel) {
        calls.add(call);
        got = fromHouse;
        want = fromModel;
    }
}
