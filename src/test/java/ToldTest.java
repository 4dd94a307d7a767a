/** Promise 11: told. */
public final class ToldTest {
    public static void main(String[] args) {
        Check check = new Check();
        ofAllKinds(check);
        whetherATurnWouldDoNothing(check);
        askingChangesNothing(check);
        wrongArguments(check);
        check.finish();
    }

    private static void ofAllKinds(Check check) {
        HouseWorkers house = new HouseWorkers();
        house.put(0, 2);
        house.writer(1, 0, 0, 1);
        house.run(1000);
        house.question(2, 0, 0);
        house.writer(1, 0, 0, 10);
        house.reason(1, 0);
        house.stream();
        check.dueTold(house, 0, 1, 2, 1, 0, 1, 1);
        check.dueTold(house, 1, 0, 0, 0, 0, 1, 0);
        check.dueTold(house, 2, 1, 0, 0, 0, -1, 0);
        check.dueTold(house, 3, 2, 0, 0, 0, -1, 1);
        check.dueTold(house, 4, 3, 0, 0, 0, 1, 1);
        house.run(1000);
        check.dueTold(house, 1, 0, 2, 2, 93, 1, 1);
        check.dueTold(house, 2, 1, 2, 1, 0, 2, 1);
        check.dueTold(house, 3, 2, 2, 1, 0, 3, 1);
        check.dueTold(house, 4, 3, 0, 2, 13 * 31 + 26, 3, 1);
        house.close();
        check.dueTold(house, 4, 3, 4, 2, 13 * 31 + 26, 3, 1);
    }

    private static void whetherATurnWouldDoNothing(Check check) {
        HouseWorkers house = new HouseWorkers();
        house.writer(1, 0, 0, 1);
        house.writer(1, 0, 0, 1);
        house.stream();
        house.writer(1, 1, 0, 1);
        check.due("a writer with steps left", house.told(1, 5), 0);
        check.due("one that would fail", house.told(3, 5), 0);
        house.turn(1);
        check.due("a writer that waits", house.told(1, 5), 1);
        check.due("a stream that waits", house.told(2, 5), 1);
        house.cancel(1);
        house.cancel(2);
        check.due("a waiting writer that is to be cancelled", house.told(1, 5), 0);
        check.due("a waiting stream that is to be cancelled", house.told(2, 5), 0);
        house.run(1000);
        check.due("one that is cancelled", house.told(1, 5), 1);
        check.due("one that failed", house.told(3, 5), 1);
    }

    private static void askingChangesNothing(Check check) {
        HouseWorkers house = new HouseWorkers();
        house.reason(2, 0);
        house.reason(2, 0);
        for (int i = 0; i < 10; i++) {
            check.dueTold(house, 0, 2, 0, 0, 0, -1, 0);
            check.dueTold(house, 1, 2, 0, 0, 0, -1, 1);
        }
        check.due("count(3)", house.count(3), 0);
        check.due("count(4)", house.count(4), 0);
    }

    private static void wrongArguments(Check check) {
        HouseWorkers house = new HouseWorkers();
        check.due("told(0, 0) without workers", house.told(0, 0), -1);
        house.stream();
        int[] wrong = {-1, 6, Integer.MIN_VALUE, Integer.MAX_VALUE};
        for (int w : wrong) {
            check.due("told(0, " + w + ")", house.told(0, w), -1);
            check.due("told(" + w + ", 0)", house.told(w, 0), -1);
            check.due("told(" + w + ", " + w + ")", house.told(w, w), -1);
        }
        check.due("told(1, 0)", house.told(1, 0), -1);
    }
}
