/** Promise 4: writer. */
public final class WriterTest {
    public static void main(String[] args) {
        Check check = new Check();
        commitsInATurnMore(check);
        goesRoundTheCells(check);
        sumsWrap(check);
        waitsForLesserNumbers(check);
        waitsForAReasoningButForNoOthers(check);
        failsInThePlaceOfAStep(check);
        aFailedDraftIsGone(check);
        wrongArguments(check);
        closedAndFull(check);
        check.finish();
    }

    private static void commitsInATurnMore(Check check) {
        HouseWorkers house = new HouseWorkers();
        house.put(3, 10);
        check.due("writer(2, 0, 3, 5)", house.writer(2, 0, 3, 5), 0);
        check.dueTold(house, 0, 1, 0, 0, 0, -1, 0);
        check.dueTurns(house, 0, 1, 1);
        check.dueTold(house, 0, 1, 0, 2, 0, -1, 0);
        check.due("count(0)", house.count(0), 1);
        check.due("cell(0, 3)", house.cell(0, 3), 10);
        check.dueTurns(house, 0, 2, 0);
        check.dueTold(house, 0, 1, 2, 2, 0, 1, 1);
        check.dueCells(house, 1, 0, 0, 0, 15, 5, 0, 0, 0, 0, 0, 0, 0, 0, 0, 0, 0);
    }

    private static void goesRoundTheCells(Check check) {
        HouseWorkers house = new HouseWorkers();
        house.writer(20, 0, 14, -3);
        house.run(1000);
        check.dueCells(house, 1, -6, -6, -3, -3, -3, -3, -3, -3, -3, -3, -3, -3, -3, -3, -6, -6);
    }

    private static void sumsWrap(Check check) {
        HouseWorkers house = new HouseWorkers();
        house.put(0, Integer.MAX_VALUE);
        house.put(1, Integer.MIN_VALUE);
        house.writer(1, 0, 0, 2);
        house.writer(1, 0, 1, -1);
        house.run(1000);
        check.due("cell(2, 0)", house.cell(2, 0), Integer.MIN_VALUE + 1);
        check.due("cell(2, 1)", house.cell(2, 1), Integer.MAX_VALUE);
        HouseWorkers drafted = new HouseWorkers();
        drafted.writer(17, 0, 5, Integer.MAX_VALUE);
        drafted.run(1000);
        check.due("cell(1, 4)", drafted.cell(1, 4), Integer.MAX_VALUE);
        check.due("cell(1, 5)", drafted.cell(1, 5), -2);
    }

    private static void waitsForLesserNumbers(Check check) {
        HouseWorkers house = new HouseWorkers();
        house.writer(1, 0, 0, 1);
        house.writer(1, 0, 0, 10);
        house.writer(1, 0, 1, 100);
        check.dueTurns(house, 2, 1, 0, 0);
        check.due("told(2, 5)", house.told(2, 5), 1);
        check.dueTurns(house, 0, 1, 2);
        check.due("told(2, 5) with one before it", house.told(2, 5), 1);
        check.dueTurns(house, 2, 0);
        check.dueTurns(house, 1, 1, 2);
        check.due("told(2, 5) with none before it", house.told(2, 5), 0);
        check.dueTurns(house, 2, 2);
        check.due("cell(3, 0)", house.cell(3, 0), 11);
        check.due("cell(3, 1)", house.cell(3, 1), 100);
        for (int work = 0; work < 3; work++) {
            check.due("told(" + work + ", 4)", house.told(work, 4), work + 1);
        }
    }

    private static void waitsForAReasoningButForNoOthers(Check check) {
        HouseWorkers house = new HouseWorkers();
        house.question(5, 0, 0);
        house.stream();
        house.reason(1, 0);
        house.writer(1, 0, 0, 1);
        house.writer(1, 0, 0, 1);
        check.dueTurns(house, 3, 1, 0);
        check.dueTurns(house, 2, 1);
        check.dueTurns(house, 3, 0);
        check.dueTurns(house, 2, 2);
        check.dueTurns(house, 3, 2);
        check.dueTold(house, 3, 1, 2, 1, 0, 2, 1);
        check.dueTurns(house, 4, 1, 2);
    }

    private static void failsInThePlaceOfAStep(Check check) {
        HouseWorkers house = new HouseWorkers();
        house.writer(1, 0, 0, 1);
        house.writer(2, 2, 0, 1);
        house.writer(2, 3, 0, 1);
        check.dueTurns(house, 1, 1, 3, 0);
        check.dueTold(house, 1, 1, 3, 1, 0, -1, 1);
        check.dueTurns(house, 2, 1, 1, 0);
        check.dueTurns(house, 0, 1, 2);
        check.dueTurns(house, 2, 2);
        check.dueTold(house, 2, 1, 2, 2, 0, 2, 1);
    }

    private static void aFailedDraftIsGone(Check check) {
        HouseWorkers house = new HouseWorkers();
        house.writer(3, 3, 0, 7);
        house.writer(3, 0, 0, 9);
        house.writer(1, 0, 0, 1);
        house.turn(1);
        house.cancel(1);
        house.run(1000);
        check.due("count(0)", house.count(0), 2);
        check.dueCells(house, 1, 1, 0, 0, 0, 0, 0, 0, 0, 0, 0, 0, 0, 0, 0, 0, 0);
    }

    private static void wrongArguments(Check check) {
        HouseWorkers house = new HouseWorkers();
        int[][] wrong = {{0, 0, 0}, {21, 0, 0}, {-1, 0, 0}, {1, -1, 0}, {1, 31, 0}, {1, 0, -1}, {1, 0, 16},
            {Integer.MAX_VALUE, 0, 0}, {1, Integer.MIN_VALUE, 0}, {1, 0, Integer.MAX_VALUE}};
        for (int[] w : wrong) {
            check.due("a wrong writer", house.writer(w[0], w[1], w[2], 1), -1);
        }
        check.due("writer(1, 0, 0, least)", house.writer(1, 0, 0, Integer.MIN_VALUE), 0);
        check.due("writer(20, 30, 15, 0)", house.writer(20, 30, 15, 0), 1);
    }

    private static void closedAndFull(Check check) {
        HouseWorkers house = new HouseWorkers();
        Check.fill(house);
        check.due("writer when full", house.writer(1, 0, 0, 1), -3);
        check.due("a wrong writer when full", house.writer(1, 0, 16, 1), -1);
        house.close();
        check.due("writer when closed and full", house.writer(1, 0, 0, 1), -2);
        check.due("a wrong writer when closed", house.writer(1, 31, 0, 1), -1);
    }
}
