/** Promise 3: question. */
public final class QuestionTest {
    public static void main(String[] args) {
        Check check = new Check();
        readsItsCellsInOrder(check);
        goesRoundTheCells(check);
        sumsWrap(check);
        readsTheVersionThatItPinned(check);
        failsInThePlaceOfAStep(check);
        wrongArguments(check);
        closedAndFull(check);
        check.finish();
    }

    private static HouseWorkers counted() {
        HouseWorkers house = new HouseWorkers();
        for (int cell = 0; cell < 16; cell++) {
            house.put(cell, cell + 1);
        }
        return house;
    }

    private static void readsItsCellsInOrder(Check check) {
        HouseWorkers house = counted();
        check.due("question(3, 0, 2)", house.question(3, 0, 2), 0);
        check.dueTold(house, 0, 0, 0, 0, 0, 0, 0);
        check.dueTurns(house, 0, 1);
        check.dueTold(house, 0, 0, 0, 1, 3, 0, 0);
        check.dueTurns(house, 0, 1);
        check.dueTold(house, 0, 0, 0, 2, 3 * 31 + 4, 0, 0);
        check.dueTurns(house, 0, 2, 0);
        check.dueTold(house, 0, 0, 2, 3, (3 * 31 + 4) * 31 + 5, 0, 1);
    }

    private static void goesRoundTheCells(Check check) {
        HouseWorkers house = counted();
        house.question(20, 0, 15);
        int answer = 0;
        for (int step = 0; step < 20; step++) {
            check.dueTurns(house, 0, step == 19 ? 2 : 1);
            answer = 31 * answer + (15 + step) % 16 + 1;
            check.due("its answer", house.told(0, 3), answer);
        }
    }

    private static void sumsWrap(Check check) {
        HouseWorkers house = new HouseWorkers();
        house.put(0, Integer.MAX_VALUE);
        house.put(1, Integer.MIN_VALUE);
        house.question(2, 0, 0);
        house.run(2);
        check.due("its answer", house.told(0, 3), 31 * Integer.MAX_VALUE + Integer.MIN_VALUE);
    }

    private static void readsTheVersionThatItPinned(Check check) {
        HouseWorkers house = counted();
        house.writer(1, 0, 0, 100);
        house.question(2, 0, 0);
        check.dueTurns(house, 0, 1, 2);
        house.question(2, 0, 0);
        house.run(1000);
        check.dueTold(house, 1, 0, 2, 2, 31 + 2, 0, 1);
        check.dueTold(house, 2, 0, 2, 2, 101 * 31 + 2, 1, 1);
    }

    private static void failsInThePlaceOfAStep(Check check) {
        HouseWorkers house = counted();
        house.question(2, 1, 4);
        house.question(2, 2, 4);
        house.question(2, 3, 4);
        house.question(2, 30, 4);
        check.dueTurns(house, 0, 3, 0);
        check.dueTold(house, 0, 0, 3, 0, 0, 0, 1);
        check.dueTurns(house, 1, 1, 3, 0);
        check.dueTold(house, 1, 0, 3, 1, 5, 0, 1);
        check.dueTurns(house, 2, 1, 2, 0);
        check.dueTurns(house, 3, 1, 2, 0);
    }

    private static void wrongArguments(Check check) {
        HouseWorkers house = new HouseWorkers();
        int[][] wrong = {{0, 0, 0}, {21, 0, 0}, {-1, 0, 0}, {1, -1, 0}, {1, 31, 0}, {1, 0, -1}, {1, 0, 16},
            {Integer.MIN_VALUE, 0, 0}, {1, Integer.MAX_VALUE, 0}, {1, 0, Integer.MIN_VALUE}};
        for (int[] w : wrong) {
            check.due("a wrong question", house.question(w[0], w[1], w[2]), -1);
        }
        check.due("question(1, 0, 0)", house.question(1, 0, 0), 0);
        check.due("question(20, 30, 15)", house.question(20, 30, 15), 1);
    }

    private static void closedAndFull(Check check) {
        HouseWorkers house = new HouseWorkers();
        Check.fill(house);
        check.due("question when full", house.question(1, 0, 0), -3);
        check.due("a wrong question when full", house.question(0, 0, 0), -1);
        house.run(1000);
        check.due("question when full of those that ended", house.question(1, 0, 0), -3);
        house.close();
        check.due("question when closed and full", house.question(1, 0, 0), -2);
        check.due("a wrong question when closed", house.question(1, 0, 16), -1);
    }
}
