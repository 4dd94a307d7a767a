/** Promise 12: ended. */
public final class EndedTest {
    public static void main(String[] args) {
        Check check = new Check();
        inTheOrderOfTheEnds(check);
        allThirty(check);
        wrongArguments(check);
        check.finish();
    }

    private static void inTheOrderOfTheEnds(Check check) {
        HouseWorkers house = new HouseWorkers();
        house.question(3, 0, 0);
        house.writer(1, 0, 0, 1);
        house.stream();
        house.question(2, 2, 0);
        check.dueTurns(house, 2, 0);
        check.dueTurns(house, 3, 1, 3);
        check.dueEnd(house, 0, 3, 3, 2);
        check.dueEnd(house, 1, -2, -2, -2);
        house.cancel(2);
        check.dueTurns(house, 2, 4);
        check.dueTurns(house, 1, 1, 2);
        check.dueTurns(house, 0, 1);
        house.close();
        check.dueEnd(house, 0, 3, 3, 2);
        check.dueEnd(house, 1, 2, 4, 3);
        check.dueEnd(house, 2, 1, 2, 5);
        check.dueEnd(house, 3, 0, 4, 6);
        check.dueEnd(house, 4, -2, -2, -2);
    }

    private static void allThirty(Check check) {
        HouseWorkers house = new HouseWorkers();
        Check.fill(house);
        for (int work = 29; work >= 0; work--) {
            check.dueTurns(house, work, 2);
        }
        for (int i = 0; i < 30; i++) {
            check.dueEnd(house, i, 29 - i, 2, i + 1);
        }
        check.dueEnd(house, 30, -2, -2, -2);
    }

    private static void wrongArguments(Check check) {
        HouseWorkers house = new HouseWorkers();
        house.question(1, 0, 0);
        house.turn(0);
        int[] wrong = {-1, 3, Integer.MIN_VALUE, Integer.MAX_VALUE};
        for (int w : wrong) {
            check.due("ended(0, " + w + ")", house.ended(0, w), -1);
            check.due("ended(" + w + ", 0)", house.ended(w, 0), -2);
            check.due("ended(" + w + ", " + w + ")", house.ended(w, w), -1);
        }
        check.due("ended(1, 0)", house.ended(1, 0), -2);
        check.due("ended(1, 3)", house.ended(1, 3), -1);
    }
}
