/** Promise 5: reason. */
public final class ReasonTest {
    public static void main(String[] args) {
        Check check = new Check("Promise 5: reason");
        beginsWithItsNumber(check);
        roundsTooFewOrTooMany(check);
        fewestAndMostRounds(check);
        failsAtTooSmallOrTooLarge(check);
        leastAndGreatestFailsAt(check);
        closed(check);
        full(check);
        whichRefusalComesFirst(check);
        check.finish();
    }

    private static void beginsWithItsNumber(Check check) {
        check.says("A reasoning begins: its number.");
        HouseWorkers house = new HouseWorkers();
        check.due("reason(3, 0)", house.reason(3, 0), 0);
        check.due("reason(3, 0) again", house.reason(3, 0), 1);
        check.dueTold(house, 0, 2, 0, 0, 0, -1, 0);
        check.dueTold(house, 1, 2, 0, 0, 0, -1, 1);
        check.dueCount(house, 5, 2);
        check.due("told(2, 0)", house.told(2, 0), -1);
    }

    private static void dueBad(Check check, int rounds, int failsAt) {
        HouseWorkers house = new HouseWorkers();
        String call = "reason(" + rounds + ", " + failsAt + ")";
        int[] seen = Houses.seen(house);
        check.due(call, house.reason(rounds, failsAt), -1);
        check.dueSame(call, house, seen);
    }

    private static void roundsTooFewOrTooMany(Check check) {
        check.says("BAD when rounds are not 1 .. 20");
        int[] wrong = {0, 21, -1, Houses.LEAST, Houses.GREATEST};
        for (int rounds : wrong) {
            dueBad(check, rounds, 0);
        }
    }

    private static void fewestAndMostRounds(Check check) {
        check.says("BAD when rounds are not 1 .. 20");
        HouseWorkers house = new HouseWorkers();
        check.due("reason(1, 0)", house.reason(1, 0), 0);
        check.due("reason(20, 0)", house.reason(20, 0), 1);
        check.dueTurns(house, 0, 1, 2);
        check.due("run(1000)", house.run(1000), 21);
        check.due("told(1, 2)", house.told(1, 2), 20);
    }

    private static void failsAtTooSmallOrTooLarge(Check check) {
        check.says("or failsAt not 0 .. 30");
        int[] wrong = {-1, 31, Houses.LEAST, Houses.GREATEST};
        for (int failsAt : wrong) {
            dueBad(check, 20, failsAt);
        }
    }

    private static void leastAndGreatestFailsAt(Check check) {
        check.says("or failsAt not 0 .. 30");
        HouseWorkers house = new HouseWorkers();
        check.due("reason(2, 0)", house.reason(2, 0), 0);
        check.due("reason(2, 30)", house.reason(2, 30), 1);
        check.dueTurns(house, 0, 1, 1, 2);
        check.dueTurns(house, 1, 1, 1, 2);
    }

    private static void closed(Check check) {
        check.says("NO, FULL likewise.");
        HouseWorkers house = Houses.closed();
        int[] seen = Houses.seen(house);
        check.due("reason(1, 0)", house.reason(1, 0), -2);
        check.due("reason(20, 30)", house.reason(20, 30), -2);
        check.dueSame("reason in a closed house", house, seen);
    }

    private static void full(Check check) {
        check.says("NO, FULL likewise.");
        HouseWorkers house = new HouseWorkers();
        for (int i = 0; i < 30; i++) {
            check.due("reasoning " + i, house.reason(1, 0), i);
        }
        check.due("the 31st", house.reason(1, 0), -3);
        check.due("told(30, 0)", house.told(30, 0), -1);
        check.due("run(1000)", house.run(1000), 60);
        check.due("the 31st when all have ended", house.reason(1, 0), -3);
        check.dueCount(house, 0, 31);
    }

    private static void whichRefusalComesFirst(Check check) {
        check.says("BAD when rounds are not 1 .. 20, or failsAt not 0 .. 30; NO, FULL likewise.");
        HouseWorkers house = Houses.full();
        check.due("a wrong one when full", house.reason(0, 0), -1);
        house.close();
        check.due("one when closed and full", house.reason(1, 0), -2);
        check.due("rounds wrong when closed", house.reason(21, 0), -1);
        check.due("failsAt wrong when closed", house.reason(1, 31), -1);
    }
}
