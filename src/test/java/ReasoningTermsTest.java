/** Terms: what a reasoning does. */
public final class ReasoningTermsTest {
    public static void main(String[] args) {
        Check check = new Check("Terms");
        itsStepsAreRounds(check);
        waitsBeforeTheFirstRound(check);
        lesserOnesMayEndInAnyWay(check);
        waitsForNoOthers(check);
        takesTheLatestWithTheFirstRound(check);
        pinsWithTheFirstRound(check);
        theGreaterOneOfTheTwo(check);
        lessThan0IsLess(check);
        cell15IsBeforeCell0(check);
        allAtTheSameTime(check);
        roundTheWholeRing(check);
        commitsInATurnMore(check);
        itsCellsAreANewVersion(check);
        check.finish();
    }

    private static void itsStepsAreRounds(Check check) {
        check.says("REASONING: its steps are ROUNDS.");
        HouseWorkers house = new HouseWorkers();
        house.reason(3, 0);
        for (int round = 1; round <= 3; round++) {
            check.dueTurns(house, 0, 1);
            check.due("told(0, 2)", house.told(0, 2), round);
        }
        check.dueTurns(house, 0, 2);
        check.due("told(0, 2)", house.told(0, 2), 3);
    }

    private static void waitsBeforeTheFirstRound(Check check) {
        check.says("It waits before the first one until all writers and reasonings with lesser numbers have ended");
        HouseWorkers house = new HouseWorkers();
        house.writer(1, 0, 0, 4);
        house.reason(2, 0);
        house.reason(1, 0);
        check.dueTurns(house, 1, 0);
        check.dueTurns(house, 2, 0);
        check.dueTurns(house, 0, 1);
        check.dueTurns(house, 1, 0);
        check.dueTurns(house, 0, 2);
        check.dueTurns(house, 2, 0);
        check.dueTurns(house, 1, 1, 1);
        check.dueTurns(house, 2, 0);
        check.dueTurns(house, 1, 2);
        check.dueTurns(house, 2, 1, 2);
        check.dueCells(house, 3, 4, 4, 4, 4, 0, 0, 0, 0, 0, 0, 0, 0, 0, 0, 0, 0);
    }

    private static void lesserOnesMayEndInAnyWay(Check check) {
        check.says("It waits before the first one until all writers and reasonings with lesser numbers have ended");
        HouseWorkers house = new HouseWorkers();
        house.writer(1, 1, 0, 1);
        house.reason(1, 0);
        house.reason(1, 0);
        check.dueTurns(house, 2, 0);
        check.dueTurns(house, 0, 3);
        check.dueTurns(house, 2, 0);
        house.cancel(1);
        check.dueTurns(house, 2, 0);
        check.dueTurns(house, 1, 4);
        check.dueTurns(house, 2, 1, 2);
        check.due("told(2, 4)", house.told(2, 4), 1);
    }

    private static void waitsForNoOthers(Check check) {
        check.says("It waits before the first one until all writers and reasonings with lesser numbers have ended");
        HouseWorkers house = new HouseWorkers();
        house.question(5, 0, 0);
        house.stream();
        house.reason(1, 0);
        house.writer(1, 0, 0, 1);
        house.reason(1, 0);
        house.turn(3);
        check.dueTurns(house, 2, 1, 2);
        check.dueTurns(house, 4, 0);
    }

    private static void takesTheLatestWithTheFirstRound(Check check) {
        check.says("with the first it takes the cells of the latest version");
        HouseWorkers house = new HouseWorkers();
        house.put(8, 3);
        house.writer(1, 0, 0, 7);
        house.reason(1, 0);
        house.run(1000);
        check.dueCells(house, 2, 7, 7, 0, 0, 0, 0, 0, 0, 3, 3, 0, 0, 0, 0, 0, 0);
    }

    private static void pinsWithTheFirstRound(Check check) {
        check.says("and pins that one");
        HouseWorkers house = new HouseWorkers();
        house.writer(1, 0, 0, 1);
        house.reason(2, 0);
        house.turn(1);
        check.dueCount(house, 2, 0);
        house.turn(0);
        house.turn(0);
        check.dueCount(house, 2, 0);
        house.turn(1);
        check.dueCount(house, 2, 1);
        house.turn(1);
        check.dueCount(house, 2, 1);
        check.due("cell(1, 0)", house.cell(1, 0), 1);
        house.turn(1);
        check.dueCount(house, 2, 0);
        check.due("cell(1, 0)", house.cell(1, 0), -2);
    }

    private static void theGreaterOneOfTheTwo(Check check) {
        check.says("In a round each cell becomes the greater one of itself and the cell before it");
        HouseWorkers house = new HouseWorkers();
        int[] put = {5, 1, 9, 9, 2, 8, 7, 6, 0, 3, 3, 4, 10, 1, 2, 4};
        for (int cell = 0; cell < 16; cell++) {
            house.put(cell, put[cell]);
        }
        house.reason(1, 0);
        house.run(1000);
        check.dueCells(house, 1, 5, 5, 9, 9, 9, 8, 8, 7, 6, 3, 3, 4, 10, 10, 2, 4);
    }

    private static void lessThan0IsLess(Check check) {
        check.says("In a round each cell becomes the greater one of itself and the cell before it");
        HouseWorkers house = new HouseWorkers();
        for (int cell = 0; cell < 16; cell++) {
            house.put(cell, -10 - cell);
        }
        house.put(3, Houses.LEAST);
        house.put(8, Houses.GREATEST);
        house.reason(1, 0);
        house.run(1000);
        check.dueCells(house, 1, -10, -10, -11, -12, -14, -14, -15, -16,
            Houses.GREATEST, Houses.GREATEST, -19, -20, -21, -22, -23, -24);
    }

    private static void cell15IsBeforeCell0(Check check) {
        check.says("(cell 15 is before cell 0)");
        HouseWorkers house = new HouseWorkers();
        house.put(15, 6);
        house.reason(1, 0);
        house.run(1000);
        check.dueCells(house, 1, 6, 0, 0, 0, 0, 0, 0, 0, 0, 0, 0, 0, 0, 0, 0, 6);
        HouseWorkers other = new HouseWorkers();
        other.put(0, 6);
        other.reason(1, 0);
        other.run(1000);
        check.dueCells(other, 1, 6, 6, 0, 0, 0, 0, 0, 0, 0, 0, 0, 0, 0, 0, 0, 0);
    }

    private static void allAtTheSameTime(Check check) {
        check.says("all at the same time");
        HouseWorkers house = new HouseWorkers();
        house.put(2, 5);
        house.put(14, 8);
        house.put(15, 9);
        house.reason(2, 0);
        house.run(1000);
        check.dueCells(house, 1, 9, 9, 5, 5, 5, 0, 0, 0, 0, 0, 0, 0, 0, 0, 8, 9);
    }

    private static void roundTheWholeRing(Check check) {
        check.says("all at the same time");
        int[] rounds = {14, 15, 16, 20};
        for (int n : rounds) {
            HouseWorkers house = new HouseWorkers();
            house.put(1, 4);
            house.reason(n, 0);
            house.run(1000);
            check.due("cell(1, 15) behind " + n + " rounds", house.cell(1, 15), 4);
            check.due("cell(1, 0) behind " + n + " rounds", house.cell(1, 0), n >= 15 ? 4 : 0);
        }
    }

    private static void commitsInATurnMore(Check check) {
        check.says("When it has done all, it commits in a turn more");
        HouseWorkers house = new HouseWorkers();
        house.reason(1, 0);
        check.dueTurns(house, 0, 1);
        check.dueTold(house, 0, 2, 0, 1, 0, -1, 0);
        check.dueCount(house, 0, 1);
        check.dueTurns(house, 0, 2);
        check.dueTold(house, 0, 2, 2, 1, 0, 1, 1);
        check.dueCount(house, 0, 2);
        check.dueCount(house, 3, 2);
    }

    private static void itsCellsAreANewVersion(Check check) {
        check.says("its cells are a new version; it is DONE.");
        HouseWorkers house = Houses.counted();
        house.reason(1, 0);
        house.question(1, 0, 0);
        house.run(1000);
        check.dueCells(house, 1, 16, 2, 3, 4, 5, 6, 7, 8, 9, 10, 11, 12, 13, 14, 15, 16);
        house.reason(1, 0);
        house.run(1000);
        check.dueCells(house, 2, 16, 16, 3, 4, 5, 6, 7, 8, 9, 10, 11, 12, 13, 14, 15, 16);
    }
}
