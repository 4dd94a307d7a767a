/** Terms: what a writer does. */
public final class WriterTermsTest {
    public static void main(String[] args) {
        Check check = new Check("Terms");
        stepsAddToItsDraft(check);
        addsToCell0BehindCell15(check);
        goesRoundAllCells(check);
        draftsDoNotMix(check);
        commitsInATurnMore(check);
        aDraftOf0sIsAVersionToo(check);
        addsToTheLatestOfItsCommit(check);
        stepsDoNotWait(check);
        waitsForLesserWriters(check);
        waitsForLesserReasonings(check);
        lesserOnesMayEndInAnyWay(check);
        waitsForNoOthers(check);
        theFirstOfThirtyHoldsUpTheLast(check);
        check.finish();
    }

    private static void stepsAddToItsDraft(Check check) {
        check.says("WRITER: its k-th step adds BY to cell (first + k - 1) modulo 16 of its own DRAFT (0s at first).");
        HouseWorkers house = Houses.counted();
        house.writer(2, 0, 3, 5);
        check.dueTurns(house, 0, 1, 1);
        check.dueCells(house, 0, 1, 2, 3, 4, 5, 6, 7, 8, 9, 10, 11, 12, 13, 14, 15, 16);
        check.dueTurns(house, 0, 2);
        check.dueCells(house, 1, 1, 2, 3, 9, 10, 6, 7, 8, 9, 10, 11, 12, 13, 14, 15, 16);
    }

    private static void addsToCell0BehindCell15(Check check) {
        check.says("(first + k - 1) modulo 16");
        HouseWorkers house = new HouseWorkers();
        house.writer(2, 0, 15, 7);
        house.run(1000);
        check.dueCells(house, 1, 7, 0, 0, 0, 0, 0, 0, 0, 0, 0, 0, 0, 0, 0, 0, 7);
    }

    private static void goesRoundAllCells(Check check) {
        check.says("(first + k - 1) modulo 16");
        for (int first = 0; first < 16; first++) {
            HouseWorkers house = new HouseWorkers();
            house.writer(20, 0, first, -3);
            house.run(1000);
            int[] want = new int[16];
            for (int k = 1; k <= 20; k++) {
                want[(first + k - 1) % 16] -= 3;
            }
            check.dueCells(house, 1, want);
        }
    }

    private static void draftsDoNotMix(Check check) {
        check.says("of its own DRAFT (0s at first)");
        HouseWorkers house = new HouseWorkers();
        house.writer(2, 0, 0, 1);
        house.writer(2, 0, 1, 10);
        house.turn(1);
        house.turn(0);
        house.turn(1);
        house.turn(0);
        house.stream();
        house.turn(0);
        house.turn(1);
        check.dueCells(house, 1, 1, 1, 0, 0, 0, 0, 0, 0, 0, 0, 0, 0, 0, 0, 0, 0);
        check.dueCells(house, 2, 1, 11, 10, 0, 0, 0, 0, 0, 0, 0, 0, 0, 0, 0, 0, 0);
    }

    private static void commitsInATurnMore(Check check) {
        check.says("When it has done all its steps, it COMMITS in a turn more, and is DONE");
        HouseWorkers house = new HouseWorkers();
        house.writer(1, 0, 0, 5);
        house.turn(0);
        check.dueTold(house, 0, 1, 0, 1, 0, -1, 0);
        check.dueCount(house, 0, 1);
        house.turn(0);
        check.dueTold(house, 0, 1, 2, 1, 0, 1, 1);
        check.dueCount(house, 0, 2);
        check.dueCount(house, 3, 2);
    }

    private static void aDraftOf0sIsAVersionToo(Check check) {
        check.says("a new version is the latest one with its draft added, cell by cell.");
        HouseWorkers house = Houses.counted();
        house.writer(1, 0, 0, 0);
        house.run(1000);
        check.dueCount(house, 0, 2);
        check.due("told(0, 4)", house.told(0, 4), 1);
        check.dueCells(house, 1, 1, 2, 3, 4, 5, 6, 7, 8, 9, 10, 11, 12, 13, 14, 15, 16);
    }

    private static void addsToTheLatestOfItsCommit(Check check) {
        check.says("a new version is the latest one with its draft added, cell by cell.");
        HouseWorkers house = new HouseWorkers();
        house.writer(1, 0, 0, 1);
        house.writer(2, 0, 0, 10);
        house.turn(1);
        house.turn(1);
        house.run(1000);
        check.due("told(0, 4)", house.told(0, 4), 1);
        check.due("told(1, 4)", house.told(1, 4), 2);
        check.due("cell(2, 0)", house.cell(2, 0), 11);
        check.due("cell(2, 1)", house.cell(2, 1), 10);
    }

    private static void stepsDoNotWait(Check check) {
        check.says("It waits with that until all writers and reasonings with lesser numbers have ended.");
        HouseWorkers house = new HouseWorkers();
        house.writer(1, 0, 0, 1);
        house.reason(1, 0);
        house.writer(20, 0, 0, 1);
        for (int step = 0; step < 20; step++) {
            check.due("told(2, 5)", house.told(2, 5), 0);
            check.dueTurns(house, 2, 1);
        }
        check.due("told(2, 5)", house.told(2, 5), 1);
        check.dueTurns(house, 2, 0);
    }

    private static void waitsForLesserWriters(Check check) {
        check.says("It waits with that until all writers and reasonings with lesser numbers have ended.");
        HouseWorkers house = new HouseWorkers();
        house.writer(1, 0, 0, 1);
        house.writer(1, 0, 0, 10);
        house.writer(1, 0, 1, 100);
        check.dueTurns(house, 2, 1, 0);
        check.dueTurns(house, 1, 1, 0);
        check.dueTurns(house, 0, 1);
        check.dueTurns(house, 1, 0);
        check.dueTurns(house, 2, 0);
        check.dueTurns(house, 0, 2);
        check.dueTurns(house, 2, 0);
        check.dueTurns(house, 1, 2);
        check.dueTurns(house, 2, 2);
        check.dueCells(house, 3, 11, 100, 0, 0, 0, 0, 0, 0, 0, 0, 0, 0, 0, 0, 0, 0);
    }

    private static void waitsForLesserReasonings(Check check) {
        check.says("It waits with that until all writers and reasonings with lesser numbers have ended.");
        HouseWorkers house = new HouseWorkers();
        house.reason(1, 0);
        house.writer(1, 0, 0, 5);
        check.dueTurns(house, 1, 1, 0);
        check.dueTurns(house, 0, 1);
        check.dueTurns(house, 1, 0);
        check.dueTurns(house, 0, 2);
        check.dueTurns(house, 1, 2);
        check.due("told(1, 4)", house.told(1, 4), 2);
    }

    private static void lesserOnesMayEndInAnyWay(Check check) {
        check.says("It waits with that until all writers and reasonings with lesser numbers have ended.");
        HouseWorkers house = new HouseWorkers();
        house.writer(1, 1, 0, 1);
        house.writer(1, 0, 0, 1);
        house.reason(1, 1);
        house.reason(1, 0);
        house.writer(1, 0, 0, 5);
        check.dueTurns(house, 4, 1, 0);
        check.dueTurns(house, 0, 3);
        check.dueTurns(house, 4, 0);
        house.cancel(1);
        check.dueTurns(house, 4, 0);
        check.dueTurns(house, 1, 4);
        check.dueTurns(house, 4, 0);
        check.dueTurns(house, 2, 3);
        check.dueTurns(house, 4, 0);
        Houses.stop(house, 3);
        check.dueTurns(house, 4, 2);
        check.due("told(4, 4)", house.told(4, 4), 1);
        check.due("cell(1, 0)", house.cell(1, 0), 5);
    }

    private static void waitsForNoOthers(Check check) {
        check.says("It waits with that until all writers and reasonings with lesser numbers have ended.");
        HouseWorkers house = new HouseWorkers();
        house.question(5, 0, 0);
        house.stream();
        house.writer(1, 0, 0, 1);
        house.writer(1, 0, 0, 1);
        house.reason(1, 0);
        house.turn(3);
        check.dueTurns(house, 2, 1, 2);
        check.dueTurns(house, 3, 2);
    }

    private static void theFirstOfThirtyHoldsUpTheLast(Check check) {
        check.says("It waits with that until all writers and reasonings with lesser numbers have ended.");
        HouseWorkers house = new HouseWorkers();
        for (int i = 0; i < 30; i++) {
            house.writer(1, 0, 0, 1);
        }
        for (int work = 29; work >= 0; work--) {
            check.dueTurns(house, work, 1);
        }
        for (int work = 29; work > 0; work--) {
            check.dueTurns(house, work, 0);
        }
        for (int work = 0; work < 30; work++) {
            check.dueTurns(house, work, 2);
            check.due("told(" + work + ", 4)", house.told(work, 4), work + 1);
        }
        check.due("cell(30, 0)", house.cell(30, 0), 30);
    }
}
