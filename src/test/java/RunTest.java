/** Promise 8: run. */
public final class RunTest {
    public static void main(String[] args) {
        Check check = new Check("Promise 8: run");
        byNumbersRowAfterRow(check);
        eachRunBeginsWithWorker0(check);
        untilARowOfNothing(check);
        aRowWhereOnlyTheLastDidIsNotTheEnd(check);
        nobodyIsThere(check);
        allHaveEnded(check);
        soManyIsNone(check);
        soManyInTheMiddleOfARow(check);
        soManyAtTheEndOfARow(check);
        soManyWithTheLastThatCan(check);
        soManyIsMoreThanAnyHouseCan(check);
        howManyDid(check);
        tooFewOrTooMany(check);
        check.finish();
    }

    private static void byNumbersRowAfterRow(Check check) {
        check.says("All get turns, by their numbers, row after row");
        HouseWorkers house = new HouseWorkers();
        house.question(2, 0, 0);
        house.question(1, 0, 0);
        house.question(3, 2, 0);
        house.stream();
        house.cancel(3);
        check.due("run(1000)", house.run(1000), 6);
        check.dueEnd(house, 0, 1, 2, 2);
        check.dueEnd(house, 1, 3, 4, 4);
        check.dueEnd(house, 2, 0, 2, 5);
        check.dueEnd(house, 3, 2, 3, 6);
    }

    private static void eachRunBeginsWithWorker0(Check check) {
        check.says("All get turns, by their numbers, row after row");
        HouseWorkers house = new HouseWorkers();
        house.question(9, 0, 0);
        house.question(9, 0, 0);
        house.question(9, 0, 0);
        check.due("run(2)", house.run(2), 2);
        check.due("run(2)", house.run(2), 2);
        check.due("told(0, 2)", house.told(0, 2), 2);
        check.due("told(1, 2)", house.told(1, 2), 2);
        check.due("told(2, 2)", house.told(2, 2), 0);
    }

    private static void untilARowOfNothing(Check check) {
        check.says("until in a whole row no turn did anything");
        HouseWorkers house = new HouseWorkers();
        house.stream();
        house.question(1, 0, 0);
        house.stream();
        check.due("run(1000)", house.run(1000), 1);
        check.dueCount(house, 4, 4);
        check.due("run(1)", house.run(1), 0);
        check.dueCount(house, 4, 6);
        house.cancel(2);
        check.due("run(5)", house.run(5), 1);
        check.dueCount(house, 4, 8);
    }

    private static void aRowWhereOnlyTheLastDidIsNotTheEnd(Check check) {
        check.says("until in a whole row no turn did anything");
        HouseWorkers house = new HouseWorkers();
        house.stream();
        house.writer(1, 0, 0, 5);
        house.turn(1);
        check.due("run(1000)", house.run(1000), 2);
        check.due("told(0, 4)", house.told(0, 4), 1);
        check.dueCount(house, 4, 2);
    }

    private static void nobodyIsThere(Check check) {
        check.says("until in a whole row no turn did anything");
        HouseWorkers house = new HouseWorkers();
        check.due("run(1000)", house.run(1000), 0);
        check.due("run(1)", house.run(1), 0);
        check.due("run(0)", house.run(0), 0);
    }

    private static void allHaveEnded(Check check) {
        check.says("until in a whole row no turn did anything");
        HouseWorkers house = new HouseWorkers();
        house.question(1, 0, 0);
        house.stream();
        house.close();
        check.due("run(1000)", house.run(1000), 0);
        check.dueCount(house, 3, 0);
        check.dueCount(house, 4, 0);
    }

    private static void soManyIsNone(Check check) {
        check.says("or so many (0 .. 1000) did something");
        HouseWorkers house = new HouseWorkers();
        house.stream();
        house.question(2, 0, 0);
        int[] seen = Houses.seen(house);
        check.due("run(0)", house.run(0), 0);
        check.dueSame("run(0)", house, seen);
    }

    private static void soManyInTheMiddleOfARow(Check check) {
        check.says("or so many (0 .. 1000) did something");
        HouseWorkers house = new HouseWorkers();
        house.question(9, 0, 0);
        house.stream();
        house.question(9, 0, 0);
        house.stream();
        check.due("run(3)", house.run(3), 3);
        check.due("told(0, 2)", house.told(0, 2), 2);
        check.due("told(2, 2)", house.told(2, 2), 1);
        check.dueCount(house, 4, 2);
    }

    private static void soManyAtTheEndOfARow(Check check) {
        check.says("or so many (0 .. 1000) did something");
        HouseWorkers house = new HouseWorkers();
        house.stream();
        house.question(2, 0, 0);
        check.due("run(1)", house.run(1), 1);
        check.dueCount(house, 4, 1);
        check.due("run(1)", house.run(1), 1);
        check.dueCount(house, 4, 2);
    }

    private static void soManyWithTheLastThatCan(Check check) {
        check.says("or so many (0 .. 1000) did something");
        HouseWorkers house = new HouseWorkers();
        house.question(2, 0, 0);
        house.stream();
        check.due("run(2)", house.run(2), 2);
        check.dueCount(house, 4, 1);
        check.due("run(3)", house.run(3), 0);
        check.dueCount(house, 4, 2);
    }

    private static void soManyIsMoreThanAnyHouseCan(Check check) {
        check.says("or so many (0 .. 1000) did something");
        HouseWorkers house = new HouseWorkers();
        for (int i = 0; i < 5; i++) {
            house.stream();
        }
        for (int i = 0; i < 25; i++) {
            house.writer(20, 0, i % 16, 1);
        }
        check.due("run(1000)", house.run(1000), 25 * 21 + 5 * 25);
        check.dueCount(house, 0, 26);
        check.dueCount(house, 1, 1);
        check.dueCount(house, 5, 5);
    }

    private static void howManyDid(Check check) {
        check.says("how many did");
        HouseWorkers house = new HouseWorkers();
        house.stream();
        house.writer(2, 0, 0, 1);
        house.question(3, 2, 0);
        house.question(1, 0, 0);
        house.cancel(3);
        check.due("run(4)", house.run(4), 4);
        check.due("run(1000)", house.run(1000), 3);
        check.due("run(1000) again", house.run(1000), 0);
        check.dueCount(house, 3, 7);
    }

    private static void tooFewOrTooMany(Check check) {
        check.says("BAD.");
        HouseWorkers house = new HouseWorkers();
        check.due("run(1001) without workers", house.run(1001), -1);
        house.question(2, 0, 0);
        int[] seen = Houses.seen(house);
        int[] wrong = {-1, 1001, Houses.LEAST, Houses.GREATEST};
        for (int most : wrong) {
            check.due("run(" + most + ")", house.run(most), -1);
        }
        check.dueSame("run of too few or too many", house, seen);
        house.close();
        check.due("run(-1) when closed", house.run(-1), -1);
        check.due("run(1001) when closed", house.run(1001), -1);
    }
}
