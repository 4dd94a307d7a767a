/** Promise 14: count. */
public final class CountTest {
    public static void main(String[] args) {
        Check check = new Check();
        allCounts(check);
        pinnedVersionsCountOnce(check);
        mostVersions(check);
        wrongArguments(check);
        check.finish();
    }

    private static void dueCounts(Check check, HouseWorkers house, int... want) {
        for (int what = 0; what < want.length; what++) {
            check.due("count(" + what + ")", house.count(what), want[what]);
        }
    }

    private static void allCounts(Check check) {
        HouseWorkers house = new HouseWorkers();
        house.question(2, 0, 0);
        house.writer(1, 0, 0, 1);
        house.writer(1, 0, 0, 1);
        house.stream();
        dueCounts(check, house, 1, 1, 1, 0, 0, 4);
        check.dueTurns(house, 2, 1, 0);
        check.dueTurns(house, 3, 0);
        dueCounts(check, house, 1, 1, 1, 1, 2, 4);
        check.dueTurns(house, 1, 1, 2, 0);
        dueCounts(check, house, 2, 2, 1, 3, 2, 3);
        check.dueTurns(house, 2, 2);
        dueCounts(check, house, 3, 3, 1, 4, 2, 2);
        check.dueTurns(house, 0, 1, 2);
        dueCounts(check, house, 3, 2, 0, 6, 2, 1);
        check.dueTurns(house, 3, 1);
        dueCounts(check, house, 3, 1, 0, 7, 2, 1);
        house.close();
        dueCounts(check, house, 3, 1, 0, 7, 2, 0);
    }

    private static void pinnedVersionsCountOnce(Check check) {
        HouseWorkers house = new HouseWorkers();
        house.question(2, 0, 0);
        house.question(2, 0, 0);
        house.reason(2, 0);
        house.turn(2);
        check.due("count(2)", house.count(2), 1);
        house.turn(2);
        house.turn(2);
        house.question(2, 0, 0);
        check.due("count(2)", house.count(2), 2);
        check.due("count(1)", house.count(1), 2);
    }

    private static void mostVersions(Check check) {
        HouseWorkers house = new HouseWorkers();
        for (int i = 0; i < 30; i++) {
            house.writer(1, 0, i % 16, 1);
        }
        check.due("run(1000)", house.run(1000), 60);
        dueCounts(check, house, 31, 1, 0, 60, 0, 0);
        check.dueCells(house, 30, 2, 2, 2, 2, 2, 2, 2, 2, 2, 2, 2, 2, 2, 2, 1, 1);
    }

    private static void wrongArguments(Check check) {
        HouseWorkers house = new HouseWorkers();
        int[] wrong = {-1, 6, Integer.MIN_VALUE, Integer.MAX_VALUE};
        for (int what : wrong) {
            check.due("count(" + what + ")", house.count(what), -1);
        }
    }
}
