/** Promise 3: question. */
public final class QuestionTest {
    public static void main(String[] args) {
        Check check = new Check("Promise 3: question");
        beginsWithItsNumber(check);
        stepsTooFewOrTooMany(check);
        fewestAndMostSteps(check);
        failsAtTooSmallOrTooLarge(check);
        leastAndGreatestFailsAt(check);
        firstTooSmallOrTooLarge(check);
        leastAndGreatestFirst(check);
        closed(check);
        full(check);
        whichRefusalComesFirst(check);
        check.finish();
    }

    private static void beginsWithItsNumber(Check check) {
        check.says("A question begins: its number.");
        HouseWorkers house = new HouseWorkers();
        check.due("question(3, 0, 2)", house.question(3, 0, 2), 0);
        check.due("question(3, 0, 2) again", house.question(3, 0, 2), 1);
        check.dueTold(house, 1, 0, 0, 0, 0, 0, 0);
        check.dueCount(house, 5, 2);
        check.due("told(2, 0)", house.told(2, 0), -1);
    }

    private static void dueBad(Check check, int steps, int failsAt, int first) {
        HouseWorkers house = new HouseWorkers();
        String call = "question(" + steps + ", " + failsAt + ", " + first + ")";
        int[] seen = Houses.seen(house);
        check.due(call, house.question(steps, failsAt, first), -1);
        check.dueSame(call, house, seen);
    }

    private static void stepsTooFewOrTooMany(Check check) {
        check.says("BAD when steps are not 1 .. 20");
        int[] wrong = {0, 21, -1, Houses.LEAST, Houses.GREATEST};
        for (int steps : wrong) {
            dueBad(check, steps, 0, 0);
        }
    }

    private static void fewestAndMostSteps(Check check) {
        check.says("BAD when steps are not 1 .. 20");
        HouseWorkers house = new HouseWorkers();
        check.due("question(1, 0, 0)", house.question(1, 0, 0), 0);
        check.due("question(20, 0, 0)", house.question(20, 0, 0), 1);
        check.dueTurns(house, 0, 2);
        check.due("run(1000)", house.run(1000), 20);
        check.due("told(1, 2)", house.told(1, 2), 20);
    }

    private static void failsAtTooSmallOrTooLarge(Check check) {
        check.says("failsAt not 0 .. 30");
        int[] wrong = {-1, 31, Houses.LEAST, Houses.GREATEST};
        for (int failsAt : wrong) {
            dueBad(check, 20, failsAt, 0);
        }
    }

    private static void leastAndGreatestFailsAt(Check check) {
        check.says("failsAt not 0 .. 30");
        HouseWorkers house = new HouseWorkers();
        check.due("question(2, 0, 0)", house.question(2, 0, 0), 0);
        check.due("question(2, 30, 0)", house.question(2, 30, 0), 1);
        check.dueTurns(house, 0, 1, 2);
        check.dueTurns(house, 1, 1, 2);
    }

    private static void firstTooSmallOrTooLarge(Check check) {
        check.says("or first is not 0 .. 15");
        int[] wrong = {-1, 16, Houses.LEAST, Houses.GREATEST};
        for (int first : wrong) {
            dueBad(check, 1, 0, first);
        }
    }

    private static void leastAndGreatestFirst(Check check) {
        check.says("or first is not 0 .. 15");
        HouseWorkers house = Houses.counted();
        check.due("question(1, 0, 0)", house.question(1, 0, 0), 0);
        check.due("question(1, 0, 15)", house.question(1, 0, 15), 1);
        house.run(1000);
        check.due("told(0, 3)", house.told(0, 3), 1);
        check.due("told(1, 3)", house.told(1, 3), 16);
    }

    private static void closed(Check check) {
        check.says("NO: the house is closed");
        HouseWorkers house = Houses.closed();
        int[] seen = Houses.seen(house);
        check.due("question(1, 0, 0)", house.question(1, 0, 0), -2);
        check.due("question(20, 30, 15)", house.question(20, 30, 15), -2);
        check.dueSame("question in a closed house", house, seen);
    }

    private static void full(Check check) {
        check.says("FULL.");
        HouseWorkers house = new HouseWorkers();
        for (int i = 0; i < 30; i++) {
            check.due("question " + i, house.question(1, 0, 0), i);
        }
        check.due("the 31st", house.question(1, 0, 0), -3);
        check.due("told(30, 0)", house.told(30, 0), -1);
        check.dueCount(house, 5, 30);
        house.run(1000);
        check.due("the 31st when all have ended", house.question(1, 0, 0), -3);
        check.dueCount(house, 5, 0);
    }

    private static void whichRefusalComesFirst(Check check) {
        check.says("BAD when steps are not 1 .. 20, failsAt not 0 .. 30, or first is not 0 .. 15; "
            + "NO: the house is closed; FULL.");
        HouseWorkers house = Houses.full();
        check.due("a wrong one when full", house.question(0, 0, 0), -1);
        house.close();
        check.due("one when closed and full", house.question(1, 0, 0), -2);
        check.due("steps wrong when closed", house.question(21, 0, 0), -1);
        check.due("failsAt wrong when closed", house.question(1, 31, 0), -1);
        check.due("first wrong when closed", house.question(1, 0, 16), -1);
    }
}
