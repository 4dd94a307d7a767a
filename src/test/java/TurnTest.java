/** Promise 7: turn. */
public final class TurnTest {
    public static void main(String[] args) {
        Check check = new Check();
        allItsAnswers(check);
        cancelledInThePlaceOfAllElse(check);
        turnsAreCounted(check);
        noSuchWorker(check);
        check.finish();
    }

    private static void allItsAnswers(Check check) {
        HouseWorkers house = new HouseWorkers();
        house.question(2, 0, 0);
        house.question(2, 2, 0);
        house.stream();
        check.dueTurns(house, 0, 1, 2, 0, 0);
        check.dueTurns(house, 1, 1, 3, 0, 0);
        check.dueTurns(house, 2, 0);
        house.cancel(2);
        check.dueTurns(house, 2, 4, 0, 0);
    }

    private static void cancelledInThePlaceOfAllElse(Check check) {
        HouseWorkers house = new HouseWorkers();
        house.writer(1, 0, 0, 1);
        house.question(1, 1, 0);
        house.question(1, 0, 0);
        house.writer(1, 0, 0, 1);
        house.reason(1, 0);
        house.turn(3);
        for (int work = 1; work <= 4; work++) {
            house.cancel(work);
            check.dueTurns(house, work, 4, 0);
        }
        house.turn(0);
        house.cancel(0);
        check.dueTurns(house, 0, 4);
        check.due("count(0)", house.count(0), 1);
    }

    private static void turnsAreCounted(Check check) {
        HouseWorkers house = new HouseWorkers();
        house.question(2, 0, 0);
        house.stream();
        check.dueTurns(house, 0, 1, 2, 0);
        check.dueTurns(house, 1, 0, 0, 0);
        check.due("count(3)", house.count(3), 2);
        check.due("count(4)", house.count(4), 3);
    }

    private static void noSuchWorker(Check check) {
        HouseWorkers house = new HouseWorkers();
        check.due("turn(0) without workers", house.turn(0), -1);
        house.stream();
        int[] wrong = {-1, 1, 29, 30, Integer.MIN_VALUE, Integer.MAX_VALUE};
        for (int work : wrong) {
            check.due("turn(" + work + ")", house.turn(work), -1);
        }
        check.due("count(4)", house.count(4), 0);
        HouseWorkers full = new HouseWorkers();
        Check.fill(full);
        check.due("turn(29) of a full house", full.turn(29), 2);
        check.due("turn(30) of a full house", full.turn(30), -1);
        check.due("told(30, 0) of a full house", full.told(30, 0), -1);
        check.due("cancel(30) of a full house", full.cancel(30), -1);
    }
}
