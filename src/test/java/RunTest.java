/** Promise 8: run. */
public final class RunTest {
    public static void main(String[] args) {
        Check check = new Check();
        goesByNumbersRowAfterRow(check);
        stopsInTheMiddleOfARow(check);
        stopsBehindARowOfNothing(check);
        stopsWithoutARowMore(check);
        greatHouse(check);
        wrongArguments(check);
        check.finish();
    }

    private static void goesByNumbersRowAfterRow(Check check) {
        HouseWorkers house = new HouseWorkers();
        house.question(2, 0, 0);
        house.question(1, 0, 0);
        house.question(3, 2, 0);
        check.due("run(1000)", house.run(1000), 5);
        check.dueEnd(house, 0, 1, 2, 2);
        check.dueEnd(house, 1, 0, 2, 4);
        check.dueEnd(house, 2, 2, 3, 5);
        check.due("run(1000) again", house.run(1000), 0);
    }

    private static void stopsInTheMiddleOfARow(Check check) {
        HouseWorkers house = new HouseWorkers();
        house.question(9, 0, 0);
        house.question(9, 0, 0);
        house.question(9, 0, 0);
        check.due("run(2)", house.run(2), 2);
        check.due("run(2)", house.run(2), 2);
        check.due("told(0, 2)", house.told(0, 2), 2);
        check.due("told(1, 2)", house.told(1, 2), 2);
        check.due("told(2, 2)", house.told(2, 2), 0);
        check.due("run(4)", house.run(4), 4);
        check.due("told(0, 2)", house.told(0, 2), 4);
        check.due("told(2, 2)", house.told(2, 2), 1);
    }

    private static void stopsBehindARowOfNothing(Check check) {
        HouseWorkers house = new HouseWorkers();
        house.stream();
        house.question(1, 0, 0);
        house.stream();
        check.due("run(1000)", house.run(1000), 1);
        check.due("count(4)", house.count(4), 4);
        check.due("run(1)", house.run(1), 0);
        check.due("count(4)", house.count(4), 6);
        house.cancel(2);
        check.due("run(5)", house.run(5), 1);
        check.due("count(4)", house.count(4), 8);
    }

    private static void stopsWithoutARowMore(Check check) {
        HouseWorkers house = new HouseWorkers();
        house.question(2, 0, 0);
        house.stream();
        check.due("run(0)", house.run(0), 0);
        check.due("run(1)", house.run(1), 1);
        check.due("count(4)", house.count(4), 0);
        check.due("run(1)", house.run(1), 1);
        check.due("count(4)", house.count(4), 0);
        check.due("run(0) with nothing to do", house.run(0), 0);
        check.due("count(4)", house.count(4), 0);
    }

    private static void greatHouse(Check check) {
        HouseWorkers house = new HouseWorkers();
        for (int i = 0; i < 15; i++) {
            house.stream();
            house.writer(20, 0, i, 1);
        }
        check.due("run(500)", house.run(500), 500);
        check.due("run(1000)", house.run(1000), 15 * 21 + 15 * 15 - 500);
        check.due("count(0)", house.count(0), 16);
        check.due("count(1)", house.count(1), 1);
    }

    private static void wrongArguments(Check check) {
        HouseWorkers house = new HouseWorkers();
        check.due("run(1000) without workers", house.run(1000), 0);
        house.question(2, 0, 0);
        int[] wrong = {-1, 1001, Integer.MIN_VALUE, Integer.MAX_VALUE};
        for (int most : wrong) {
            check.due("run(" + most + ")", house.run(most), -1);
        }
        check.due("count(3)", house.count(3), 0);
        house.close();
        check.due("run(1000) in a closed house", house.run(1000), 0);
        check.due("run(1001) in a closed house", house.run(1001), -1);
    }
}
