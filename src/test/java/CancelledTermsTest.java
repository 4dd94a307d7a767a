/** Terms: how workers are cancelled, and what is left of those that have ended. */
public final class CancelledTermsTest {
    public static void main(String[] args) {
        Check check = new Check("Terms");
        onlyInItsNextTurn(check);
        inThePlaceOfAStep(check);
        inThePlaceOfALastStep(check);
        inThePlaceOfAFailure(check);
        inThePlaceOfACommit(check);
        inThePlaceOfAVersion(check);
        alsoWhenItWouldWait(check);
        untilThenItHoldsUpOthers(check);
        untilThenItPins(check);
        whatIsDonePinsNothing(check);
        whatFailedPinsNothing(check);
        whatIsCancelledPinsNothing(check);
        draftsAreGone(check);
        cellsAreGone(check);
        check.finish();
    }

    private static void onlyInItsNextTurn(Check check) {
        check.says("A worker that was told to be cancelled is CANCELLED in its next turn");
        HouseWorkers house = new HouseWorkers();
        house.question(3, 0, 0);
        house.question(3, 0, 0);
        house.cancel(0);
        check.dueTurns(house, 1, 1, 1);
        check.due("told(0, 1)", house.told(0, 1), 0);
        check.dueTurns(house, 0, 4);
        check.due("told(0, 1)", house.told(0, 1), 4);
        check.due("told(1, 1)", house.told(1, 1), 0);
        check.dueTurns(house, 1, 2);
    }

    private static void inThePlaceOfAStep(Check check) {
        check.says("in the place of all else");
        for (int kind = 0; kind < Houses.STREAM; kind++) {
            HouseWorkers house = Houses.counted();
            Houses.begin(house, kind);
            house.cancel(0);
            check.dueTurns(house, 0, 4, 0);
            check.due("told(0, 2) of kind " + kind, house.told(0, 2), 0);
            check.due("told(0, 3) of kind " + kind, house.told(0, 3), 0);
        }
    }

    private static void inThePlaceOfALastStep(Check check) {
        check.says("in the place of all else");
        HouseWorkers house = Houses.counted();
        house.question(2, 0, 0);
        house.turn(0);
        house.cancel(0);
        check.dueTurns(house, 0, 4, 0);
        check.dueTold(house, 0, 0, 4, 1, 1, 0, 1);
    }

    private static void inThePlaceOfAFailure(Check check) {
        check.says("in the place of all else");
        HouseWorkers house = new HouseWorkers();
        for (int kind = 0; kind < Houses.STREAM; kind++) {
            int work = Houses.begin(house, kind, 1);
            house.cancel(work);
            check.dueTurns(house, work, 4, 0);
            check.due("told(" + work + ", 1)", house.told(work, 1), 4);
        }
    }

    private static void inThePlaceOfACommit(Check check) {
        check.says("in the place of all else");
        HouseWorkers house = new HouseWorkers();
        house.writer(1, 0, 0, 1);
        house.turn(0);
        house.cancel(0);
        check.dueTurns(house, 0, 4, 0);
        house.reason(1, 0);
        house.turn(1);
        house.cancel(1);
        check.dueTurns(house, 1, 4, 0);
        check.dueCount(house, 0, 1);
        check.due("told(0, 4)", house.told(0, 4), -1);
        check.due("told(1, 4)", house.told(1, 4), -1);
    }

    private static void inThePlaceOfAVersion(Check check) {
        check.says("in the place of all else");
        HouseWorkers house = new HouseWorkers();
        house.stream();
        Houses.commitOne(house);
        house.cancel(0);
        check.dueTurns(house, 0, 4, 0);
        check.dueTold(house, 0, 3, 4, 0, 0, 0, 1);
    }

    private static void alsoWhenItWouldWait(Check check) {
        check.says("also when it would wait");
        HouseWorkers house = new HouseWorkers();
        house.writer(1, 0, 0, 1);
        house.writer(1, 0, 0, 1);
        house.reason(1, 0);
        house.stream();
        house.turn(1);
        for (int work = 1; work <= 3; work++) {
            check.dueTurns(house, work, 0);
            house.cancel(work);
            check.due("told(" + work + ", 5)", house.told(work, 5), 0);
            check.dueTurns(house, work, 4, 0);
            check.dueEnd(house, work - 1, work, 4, work + 1);
        }
        check.dueCount(house, 4, 3);
    }

    private static void untilThenItHoldsUpOthers(Check check) {
        check.says("A worker that was told to be cancelled is CANCELLED in its next turn");
        HouseWorkers house = new HouseWorkers();
        house.writer(1, 0, 0, 1);
        house.writer(1, 0, 0, 1);
        house.reason(1, 0);
        house.turn(1);
        house.cancel(0);
        check.dueTurns(house, 1, 0);
        check.dueTurns(house, 2, 0);
        house.turn(0);
        check.dueTurns(house, 1, 2);
        check.dueTurns(house, 2, 1, 2);
    }

    private static void untilThenItPins(Check check) {
        check.says("A worker that was told to be cancelled is CANCELLED in its next turn");
        HouseWorkers house = new HouseWorkers();
        house.question(1, 0, 0);
        house.stream();
        Houses.commitOne(house);
        Houses.commitOne(house);
        house.cancel(0);
        house.cancel(1);
        check.dueCount(house, 1, 3);
        check.dueCount(house, 2, 1);
        house.turn(0);
        check.dueCount(house, 1, 2);
        check.dueCount(house, 2, 0);
        house.turn(1);
        check.dueCount(house, 1, 1);
    }

    private static void whatIsDonePinsNothing(Check check) {
        check.says("What has ended pins nothing");
        HouseWorkers house = new HouseWorkers();
        house.question(1, 0, 0);
        Houses.commitOne(house);
        check.dueCount(house, 2, 1);
        check.dueTurns(house, 0, 2);
        check.dueCount(house, 2, 0);
        check.due("cell(0, 0)", house.cell(0, 0), -2);
        house.reason(1, 0);
        check.dueTurns(house, 2, 1, 2);
        check.dueCount(house, 2, 0);
        check.due("cell(1, 0)", house.cell(1, 0), -2);
    }

    private static void whatFailedPinsNothing(Check check) {
        check.says("What has ended pins nothing");
        HouseWorkers house = new HouseWorkers();
        house.question(2, 2, 0);
        Houses.commitOne(house);
        check.dueTurns(house, 0, 1);
        check.dueCount(house, 2, 1);
        check.dueTurns(house, 0, 3);
        check.dueCount(house, 2, 0);
        check.due("cell(0, 0)", house.cell(0, 0), -2);
        house.reason(2, 2);
        check.dueTurns(house, 2, 1, 3);
        check.dueCount(house, 2, 0);
        check.due("cell(1, 0)", house.cell(1, 0), 1);
    }

    private static void whatIsCancelledPinsNothing(Check check) {
        check.says("What has ended pins nothing");
        HouseWorkers house = new HouseWorkers();
        house.question(2, 0, 0);
        Houses.commitOne(house);
        house.question(2, 0, 0);
        house.reason(2, 0);
        house.turn(3);
        Houses.stop(house, 0);
        check.dueCount(house, 2, 1);
        check.due("cell(0, 0)", house.cell(0, 0), -2);
        house.close();
        check.dueCount(house, 2, 0);
        check.dueCount(house, 1, 1);
    }

    private static void draftsAreGone(Check check) {
        check.says("drafts and cells of what FAILED or was CANCELLED are gone.");
        HouseWorkers house = new HouseWorkers();
        house.writer(3, 3, 0, 7);
        house.writer(3, 0, 0, 9);
        house.run(5);
        Houses.stop(house, 1);
        house.writer(1, 0, 0, 1);
        house.run(1000);
        check.dueCount(house, 0, 2);
        check.dueCells(house, 1, 1, 0, 0, 0, 0, 0, 0, 0, 0, 0, 0, 0, 0, 0, 0, 0);
    }

    private static void cellsAreGone(Check check) {
        check.says("drafts and cells of what FAILED or was CANCELLED are gone.");
        HouseWorkers house = new HouseWorkers();
        house.put(4, 6);
        house.reason(3, 3);
        check.dueTurns(house, 0, 1, 1, 3);
        house.reason(3, 0);
        check.dueTurns(house, 1, 1, 1, 1);
        Houses.stop(house, 1);
        check.dueCount(house, 0, 1);
        house.reason(1, 0);
        house.run(1000);
        check.dueCells(house, 1, 0, 0, 0, 0, 6, 6, 0, 0, 0, 0, 0, 0, 0, 0, 0, 0);
    }
}
