/** Promise 5: reason. */
public final class ReasonTest {
    public static void main(String[] args) {
        Check check = new Check();
        roundsSpreadAllAtOnce(check);
        theGreaterOneStays(check);
        waitsBeforeTheFirstRound(check);
        waitsBeforeItFailsInTheFirst(check);
        pinsWithTheFirstRound(check);
        failsInThePlaceOfARound(check);
        wrongArguments(check);
        closedAndFull(check);
        check.finish();
    }

    private static void roundsSpreadAllAtOnce(Check check) {
        HouseWorkers house = new HouseWorkers();
        house.put(2, 5);
        house.put(15, 9);
        check.due("reason(2, 0)", house.reason(2, 0), 0);
        check.dueTold(house, 0, 2, 0, 0, 0, -1, 0);
        check.dueTurns(house, 0, 1, 1);
        check.dueTold(house, 0, 2, 0, 2, 0, -1, 0);
        check.due("count(0)", house.count(0), 1);
        check.dueTurns(house, 0, 2, 0);
        check.dueTold(house, 0, 2, 2, 2, 0, 1, 1);
        check.dueCells(house, 1, 9, 9, 5, 5, 5, 0, 0, 0, 0, 0, 0, 0, 0, 0, 0, 9);
    }

    private static void theGreaterOneStays(Check check) {
        HouseWorkers house = new HouseWorkers();
        int[] want = new int[16];
        for (int cell = 0; cell < 16; cell++) {
            house.put(cell, -cell);
            want[cell] = cell == 0 ? 0 : 1 - cell;
        }
        house.reason(1, 0);
        house.run(1000);
        check.dueCells(house, 1, want);
        HouseWorkers far = new HouseWorkers();
        far.put(0, Integer.MIN_VALUE);
        far.put(1, Integer.MAX_VALUE);
        far.reason(20, 0);
        far.run(1000);
        for (int cell = 0; cell < 16; cell++) {
            check.due("cell(1, " + cell + ")", far.cell(1, cell), Integer.MAX_VALUE);
        }
    }

    private static void waitsBeforeTheFirstRound(Check check) {
        HouseWorkers house = new HouseWorkers();
        house.question(5, 0, 0);
        house.writer(1, 0, 0, 4);
        house.stream();
        house.reason(1, 0);
        house.reason(1, 0);
        check.dueTurns(house, 3, 0);
        check.due("told(3, 5)", house.told(3, 5), 1);
        check.dueTurns(house, 1, 1);
        check.dueTurns(house, 3, 0);
        check.dueTurns(house, 1, 2);
        check.due("told(3, 5)", house.told(3, 5), 0);
        check.dueTurns(house, 4, 0);
        check.dueTurns(house, 3, 1);
        check.dueTurns(house, 4, 0);
        check.dueTurns(house, 3, 2);
        check.dueTurns(house, 4, 1, 2);
        check.dueCells(house, 3, 4, 4, 4, 0, 0, 0, 0, 0, 0, 0, 0, 0, 0, 0, 0, 0);
        check.due("told(4, 4)", house.told(4, 4), 3);
    }

    private static void waitsBeforeItFailsInTheFirst(Check check) {
        HouseWorkers house = new HouseWorkers();
        house.writer(1, 0, 0, 4);
        house.reason(1, 1);
        check.dueTurns(house, 1, 0);
        check.due("told(1, 5)", house.told(1, 5), 1);
        check.dueTurns(house, 0, 1, 2);
        check.dueTurns(house, 1, 3, 0);
        check.dueTold(house, 1, 2, 3, 0, 0, -1, 1);
    }

    private static void pinsWithTheFirstRound(Check check) {
        HouseWorkers house = new HouseWorkers();
        house.reason(2, 0);
        check.due("count(2) before", house.count(2), 0);
        house.turn(0);
        check.due("count(2) with the first", house.count(2), 1);
        house.turn(0);
        check.due("count(2) with the second", house.count(2), 1);
        house.turn(0);
        check.due("count(2) when it is done", house.count(2), 0);
        check.due("cell(0, 0)", house.cell(0, 0), -2);
    }

    private static void failsInThePlaceOfARound(Check check) {
        HouseWorkers house = new HouseWorkers();
        house.put(0, 8);
        house.reason(3, 3);
        house.reason(1, 2);
        check.dueTurns(house, 0, 1, 1, 3, 0);
        check.dueTold(house, 0, 2, 3, 2, 0, -1, 1);
        check.due("count(2)", house.count(2), 0);
        check.dueTurns(house, 1, 1, 2);
        check.dueCells(house, 1, 8, 8, 0, 0, 0, 0, 0, 0, 0, 0, 0, 0, 0, 0, 0, 0);
    }

    private static void wrongArguments(Check check) {
        HouseWorkers house = new HouseWorkers();
        int[][] wrong = {{0, 0}, {21, 0}, {-1, 0}, {1, -1}, {1, 31},
            {Integer.MIN_VALUE, 0}, {Integer.MAX_VALUE, 0}, {1, Integer.MIN_VALUE}, {1, Integer.MAX_VALUE}};
        for (int[] w : wrong) {
            check.due("a wrong reasoning", house.reason(w[0], w[1]), -1);
        }
        check.due("reason(1, 0)", house.reason(1, 0), 0);
        check.due("reason(20, 30)", house.reason(20, 30), 1);
    }

    private static void closedAndFull(Check check) {
        HouseWorkers house = new HouseWorkers();
        Check.fill(house);
        check.due("reason when full", house.reason(1, 0), -3);
        check.due("a wrong reasoning when full", house.reason(21, 0), -1);
        house.close();
        check.due("reason when closed and full", house.reason(1, 0), -2);
        check.due("a wrong reasoning when closed", house.reason(0, 0), -1);
    }
}
