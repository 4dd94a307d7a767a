/** Counts and prints the answers that are not the ones that are due. */
final class Check {
    private static final int CELLS = 16;

    private int wrong = 0;

    void due(String call, int got, int want) {
        if (got != want) {
            wrong++;
            System.out.println(call + " answered " + got + ", due is " + want);
        }
    }

    /** What told() says of one worker, from its kind to whether its turn would do nothing. */
    void dueTold(HouseWorkers house, int work, int... want) {
        for (int what = 0; what < want.length; what++) {
            due("told(" + work + ", " + what + ")", house.told(work, what), want[what]);
        }
    }

    void dueEnd(HouseWorkers house, int i, int work, int how, int turns) {
        due("ended(" + i + ", 0)", house.ended(i, 0), work);
        due("ended(" + i + ", 1)", house.ended(i, 1), how);
        due("ended(" + i + ", 2)", house.ended(i, 2), turns);
    }

    void dueCells(HouseWorkers house, int version, int... want) {
        for (int cell = 0; cell < CELLS; cell++) {
            due("cell(" + version + ", " + cell + ")", house.cell(version, cell), want[cell]);
        }
    }

    void dueTurns(HouseWorkers house, int work, int... want) {
        for (int i = 0; i < want.length; i++) {
            due("turn(" + work + "), the " + (i + 1) + ". in a line", house.turn(work), want[i]);
        }
    }

    /** Writers 2 and 3 of one step each do it and commit, in this order. */
    static void commitTwoAndThree(HouseWorkers house) {
        for (int work = 2; work <= 3; work++) {
            house.turn(work);
            house.turn(work);
        }
    }

    /** Fills a house with questions until no more worker can begin. */
    static void fill(HouseWorkers house) {
        for (int i = 0; i < 30; i++) {
            house.question(1, 0, 0);
        }
    }

    void finish() {
        System.out.println(wrong == 0 ? "all answers are as due" : wrong + " answers are not as due");
        if (wrong != 0) {
            System.exit(1);
        }
    }
}
