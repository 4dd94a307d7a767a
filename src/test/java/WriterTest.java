/** Promise 4: writer. */
public final class WriterTest {
    public static void main(String[] args) {
        Check check = new Check("Promise 4: writer");
        beginsWithItsNumber(check);
        anyBy(check);
        stepsTooFewOrTooMany(check);
        fewestAndMostSteps(check);
        failsAtTooSmallOrTooLarge(check);
        leastAndGreatestFailsAt(check);
        firstTooSmallOrTooLarge(check);
        leastAndGreatestFirst(check);
        closed(check);
        full(check);
        whichRefusalComesFirst(check);
        check.finish();
    }

    private static void beginsWithItsNumber(Check check) {
        check.says("A writer begins, with its BY: its number.");
        HouseWorkers house = new HouseWorkers();
        check.due("writer(3, 0, 2, 5)", house.writer(3, 0, 2, 5), 0);
        check.due("writer(3, 0, 2, 5) again", house.writer(3, 0, 2, 5), 1);
        check.dueTold(house, 1, 1, 0, 0, 0, -1, 0);
        check.dueCount(house, 5, 2);
        check.due("told(2, 0)", house.told(2, 0), -1);
    }

    private static void anyBy(Check check) {
        check.says("A writer begins, with its BY: its number.");
        int[] all = {Houses.LEAST, Houses.GREATEST, 0, -1, -2, -3};
        for (int by : all) {
            HouseWorkers house = new HouseWorkers();
            check.due("writer(1, 0, 0, " + by + ")", house.writer(1, 0, 0, by), 0);
            check.dueTurns(house, 0, 1, 2);
            check.due("cell(1, 0)", house.cell(1, 0), by);
            check.due("cell(1, 1)", house.cell(1, 1), 0);
        }
    }

    private static void dueBad(Check check, int steps, int failsAt, int first) {
        HouseWorkers house = new HouseWorkers();
        String call = "writer(" + steps + ", " + failsAt + ", " + first + ", 7)";
        int[] seen = Houses.seen(house);
        check.due(call, house.writer(steps, failsAt, first, 7), -1);
        check.dueSame(call, house, seen);
    }

    private static void stepsTooFewOrTooMany(Check check) {
        check.says("BAD, NO, FULL as for question().");
        int[] wrong = {0, 21, -1, Houses.LEAST, Houses.GREATEST};
        for (int steps : wrong) {
            dueBad(check, steps, 0, 0);
        }
    }

    private static void fewestAndMostSteps(Check check) {
        check.says("BAD, NO, FULL as for question().");
        HouseWorkers house = new HouseWorkers();
        check.due("writer(1, 0, 0, 1)", house.writer(1, 0, 0, 1), 0);
        check.due("writer(20, 0, 0, 1)", house.writer(20, 0, 0, 1), 1);
        check.dueTurns(house, 0, 1, 2);
        check.due("run(1000)", house.run(1000), 21);
        check.due("told(1, 2)", house.told(1, 2), 20);
    }

    private static void failsAtTooSmallOrTooLarge(Check check) {
        check.says("BAD, NO, FULL as for question().");
        int[] wrong = {-1, 31, Houses.LEAST, Houses.GREATEST};
        for (int failsAt : wrong) {
            dueBad(check, 20, failsAt, 0);
        }
    }

    private static void leastAndGreatestFailsAt(Check check) {
        check.says("BAD, NO, FULL as for question().");
        HouseWorkers house = new HouseWorkers();
        check.due("writer(2, 0, 0, 1)", house.writer(2, 0, 0, 1), 0);
        check.due("writer(2, 30, 0, 1)", house.writer(2, 30, 0, 1), 1);
        check.dueTurns(house, 0, 1, 1, 2);
        check.dueTurns(house, 1, 1, 1, 2);
    }

    private static void firstTooSmallOrTooLarge(Check check) {
        check.says("BAD, NO, FULL as for question().");
        int[] wrong = {-1, 16, Houses.LEAST, Houses.GREATEST};
        for (int first : wrong) {
            dueBad(check, 1, 0, first);
        }
    }

    private static void leastAndGreatestFirst(Check check) {
        check.says("BAD, NO, FULL as for question().");
        HouseWorkers house = new HouseWorkers();
        check.due("writer(1, 0, 0, 7)", house.writer(1, 0, 0, 7), 0);
        check.due("writer(1, 0, 15, 8)", house.writer(1, 0, 15, 8), 1);
        house.run(1000);
        check.dueCells(house, 2, 7, 0, 0, 0, 0, 0, 0, 0, 0, 0, 0, 0, 0, 0, 0, 8);
    }

    private static void closed(Check check) {
        check.says("BAD, NO, FULL as for question().");
        HouseWorkers house = Houses.closed();
        int[] seen = Houses.seen(house);
        check.due("writer(1, 0, 0, 1)", house.writer(1, 0, 0, 1), -2);
        check.due("writer(20, 30, 15, 1)", house.writer(20, 30, 15, 1), -2);
        check.dueSame("writer in a closed house", house, seen);
    }

    private static void full(Check check) {
        check.says("BAD, NO, FULL as for question().");
        HouseWorkers house = new HouseWorkers();
        for (int i = 0; i < 30; i++) {
            check.due("writer " + i, house.writer(1, 0, 0, 1), i);
        }
        check.due("the 31st", house.writer(1, 0, 0, 1), -3);
        check.due("told(30, 0)", house.told(30, 0), -1);
        check.due("run(1000)", house.run(1000), 60);
        check.due("the 31st when all have ended", house.writer(1, 0, 0, 1), -3);
        check.due("cell(30, 0)", house.cell(30, 0), 30);
    }

    private static void whichRefusalComesFirst(Check check) {
        check.says("BAD, NO, FULL as for question().");
        HouseWorkers house = Houses.full();
        check.due("a wrong one when full", house.writer(0, 0, 0, 1), -1);
        house.close();
        check.due("one when closed and full", house.writer(1, 0, 0, 1), -2);
        check.due("steps wrong when closed", house.writer(21, 0, 0, 1), -1);
        check.due("failsAt wrong when closed", house.writer(1, 31, 0, 1), -1);
        check.due("first wrong when closed", house.writer(1, 0, 16, 1), -1);
    }
}
