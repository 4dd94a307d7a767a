/** Promise 9: cancel. */
public final class CancelTest {
    public static void main(String[] args) {
        Check check = new Check();
        itEndsOnlyInItsNextTurn(check);
        onceAndNotWhenEnded(check);
        aWaitingOneHoldsUpUntilItsTurn(check);
        whatItPinsStaysUntilItsTurn(check);
        noSuchWorker(check);
        check.finish();
    }

    private static void itEndsOnlyInItsNextTurn(Check check) {
        HouseWorkers house = new HouseWorkers();
        house.put(0, 3);
        house.question(3, 0, 0);
        house.turn(0);
        check.due("cancel(0)", house.cancel(0), 1);
        check.dueTold(house, 0, 0, 0, 1, 3, 0, 0);
        check.due("count(5)", house.count(5), 1);
        check.due("ended(0, 0)", house.ended(0, 0), -2);
        check.dueTurns(house, 0, 4);
        check.dueTold(house, 0, 0, 4, 1, 3, 0, 1);
        check.dueEnd(house, 0, 0, 4, 2);
    }

    private static void onceAndNotWhenEnded(Check check) {
        HouseWorkers house = new HouseWorkers();
        house.stream();
        house.question(1, 0, 0);
        house.question(1, 1, 0);
        check.due("cancel(0)", house.cancel(0), 1);
        check.due("cancel(0) again", house.cancel(0), 0);
        house.run(1000);
        for (int work = 0; work < 3; work++) {
            check.due("cancel(" + work + ") when ended", house.cancel(work), 0);
        }
        check.due("told(1, 1)", house.told(1, 1), 2);
        check.due("told(2, 1)", house.told(2, 1), 3);
    }

    private static void aWaitingOneHoldsUpUntilItsTurn(Check check) {
        HouseWorkers house = new HouseWorkers();
        house.reason(1, 0);
        house.reason(1, 0);
        house.cancel(0);
        check.dueTurns(house, 1, 0);
        check.dueTurns(house, 0, 4);
        check.dueTurns(house, 1, 1, 2);
    }

    private static void whatItPinsStaysUntilItsTurn(Check check) {
        HouseWorkers house = new HouseWorkers();
        house.question(3, 0, 0);
        house.stream();
        house.writer(1, 0, 0, 1);
        house.writer(1, 0, 0, 1);
        Check.commitTwoAndThree(house);
        house.cancel(0);
        house.cancel(1);
        check.due("count(1)", house.count(1), 3);
        check.dueTurns(house, 0, 4);
        check.due("count(1)", house.count(1), 2);
        check.due("cell(0, 0)", house.cell(0, 0), -2);
        check.dueTurns(house, 1, 4);
        check.due("count(1)", house.count(1), 1);
        check.due("cell(1, 0)", house.cell(1, 0), -2);
        check.dueTold(house, 1, 3, 4, 0, 0, 0, 1);
    }

    private static void noSuchWorker(Check check) {
        HouseWorkers house = new HouseWorkers();
        check.due("cancel(0) without workers", house.cancel(0), -1);
        house.stream();
        int[] wrong = {-1, 1, 30, Integer.MIN_VALUE, Integer.MAX_VALUE};
        for (int work : wrong) {
            check.due("cancel(" + work + ")", house.cancel(work), -1);
        }
    }
}
