/** Terms: the workers, their steps and turns, how they wait and fail. */
public final class WorkersTermsTest {
    public static void main(String[] args) {
        Check check = new Check("Terms");
        numberedFrom0AsTheyBegin(check);
        aRefusedOneTakesNoNumber(check);
        atMostThirty(check);
        anEndFreesNoNumber(check);
        oneStepInATurn(check);
        nothingBehindItsEnd(check);
        waitingChangesNothing(check);
        failsAt0Never(check);
        failsAt1(check);
        failsAt1StillWaits(check);
        failsAtItsLastStep(check);
        failsBehindItsLastStepNever(check);
        theStepIsNotDone(check);
        check.finish();
    }

    private static void numberedFrom0AsTheyBegin(Check check) {
        check.says("WORKERS are numbered from 0 as they begin");
        HouseWorkers house = new HouseWorkers();
        for (int number = 0; number < 8; number++) {
            int kind = number % Houses.KINDS;
            check.due("a worker of kind " + kind, Houses.begin(house, kind), number);
            check.due("told(" + number + ", 0)", house.told(number, 0), kind);
        }
    }

    private static void aRefusedOneTakesNoNumber(Check check) {
        check.says("WORKERS are numbered from 0 as they begin");
        HouseWorkers house = new HouseWorkers();
        house.question(0, 0, 0);
        check.due("stream()", house.stream(), 0);
        house.writer(1, 0, 16, 1);
        house.reason(1, -1);
        check.due("stream()", house.stream(), 1);
        check.dueCount(house, 5, 2);
    }

    private static void atMostThirty(Check check) {
        check.says("at most 30");
        HouseWorkers house = new HouseWorkers();
        for (int number = 0; number < 29; number++) {
            Houses.begin(house, number % Houses.KINDS);
        }
        check.due("the 30th", house.reason(1, 0), 29);
        for (int kind = 0; kind < Houses.KINDS; kind++) {
            check.due("the 31st, of kind " + kind, Houses.begin(house, kind), -3);
        }
        check.dueCount(house, 5, 30);
        check.due("told(30, 0)", house.told(30, 0), -1);
    }

    private static void anEndFreesNoNumber(Check check) {
        check.says("at most 30");
        HouseWorkers house = Houses.full();
        house.run(1000);
        check.dueCount(house, 5, 0);
        for (int kind = 0; kind < Houses.KINDS; kind++) {
            check.due("the 31st, of kind " + kind, Houses.begin(house, kind), -3);
        }
    }

    private static void oneStepInATurn(Check check) {
        check.says("Each does STEPS, one in a TURN that it gets");
        HouseWorkers house = new HouseWorkers();
        house.question(20, 0, 0);
        house.writer(20, 0, 0, 1);
        for (int step = 1; step <= 20; step++) {
            house.turn(0);
            house.turn(1);
            check.due("told(0, 2)", house.told(0, 2), step);
            check.due("told(1, 2)", house.told(1, 2), step);
        }
    }

    private static void nothingBehindItsEnd(Check check) {
        check.says("until it has ENDED: DONE, FAILED or CANCELLED.");
        HouseWorkers house = Houses.counted();
        house.question(1, 0, 0);
        house.writer(2, 2, 0, 1);
        house.reason(2, 0);
        house.run(4);
        Houses.stop(house, 2);
        int[] how = {2, 3, 4};
        for (int work = 0; work < how.length; work++) {
            check.due("told(" + work + ", 1)", house.told(work, 1), how[work]);
        }
        int[] seen = Houses.seen(house);
        for (int work = 0; work < how.length; work++) {
            check.dueTurns(house, work, 0, 0);
        }
        check.due("run(1000)", house.run(1000), 0);
        check.dueSame("a turn of one that has ended", house, seen);
    }

    private static void waitingChangesNothing(Check check) {
        check.says("A turn in which a worker can't go on does nothing: it WAITS.");
        HouseWorkers house = new HouseWorkers();
        house.writer(1, 0, 0, 1);
        house.writer(1, 0, 0, 1);
        house.reason(1, 0);
        house.stream();
        house.turn(1);
        for (int work = 1; work <= 3; work++) {
            int steps = house.told(work, 2);
            check.dueTurns(house, work, 0, 0);
            check.due("told(" + work + ", 1)", house.told(work, 1), 0);
            check.due("told(" + work + ", 2)", house.told(work, 2), steps);
        }
        check.dueCount(house, 0, 1);
        check.dueCount(house, 2, 0);
        check.dueCount(house, 3, 1);
        check.dueCount(house, 4, 6);
        check.dueCount(house, 5, 4);
    }

    private static void failsAt0Never(Check check) {
        check.says("One that has FAILS AT k (1 and more; 0: it never does)");
        HouseWorkers house = new HouseWorkers();
        house.question(20, 0, 0);
        house.writer(20, 0, 0, 1);
        house.reason(20, 0);
        check.due("run(1000)", house.run(1000), 20 + 21 + 21);
        for (int work = 0; work < 3; work++) {
            check.due("told(" + work + ", 1)", house.told(work, 1), 2);
        }
    }

    private static void failsAt1(Check check) {
        check.says("One that has FAILS AT k (1 and more; 0: it never does)");
        for (int kind = 0; kind < Houses.STREAM; kind++) {
            HouseWorkers house = new HouseWorkers();
            Houses.begin(house, kind, 1);
            check.dueTurns(house, 0, 3, 0);
            check.due("told(0, 1) of kind " + kind, house.told(0, 1), 3);
            check.due("told(0, 2) of kind " + kind, house.told(0, 2), 0);
            check.dueCount(house, 0, 1);
        }
    }

    private static void failsAt1StillWaits(Check check) {
        check.says("FAILS in the place of its k-th step, if it comes to that.");
        HouseWorkers house = new HouseWorkers();
        house.writer(1, 0, 0, 4);
        house.reason(1, 1);
        house.writer(1, 1, 0, 4);
        check.dueTurns(house, 1, 0);
        check.due("told(1, 5)", house.told(1, 5), 1);
        check.dueTurns(house, 2, 3);
        check.dueTurns(house, 0, 1, 2);
        check.due("told(1, 5)", house.told(1, 5), 0);
        check.dueTurns(house, 1, 3, 0);
        check.dueTold(house, 1, 2, 3, 0, 0, -1, 1);
    }

    private static void failsAtItsLastStep(Check check) {
        check.says("FAILS in the place of its k-th step, if it comes to that.");
        HouseWorkers house = new HouseWorkers();
        house.question(20, 20, 0);
        house.writer(20, 20, 0, 1);
        house.reason(20, 20);
        check.due("run(1000)", house.run(1000), 60);
        for (int work = 0; work < 3; work++) {
            check.due("told(" + work + ", 1)", house.told(work, 1), 3);
            check.due("told(" + work + ", 2)", house.told(work, 2), 19);
        }
        check.dueCount(house, 0, 1);
    }

    private static void failsBehindItsLastStepNever(Check check) {
        check.says("FAILS in the place of its k-th step, if it comes to that.");
        for (int failsAt = 21; failsAt <= 30; failsAt++) {
            HouseWorkers house = new HouseWorkers();
            house.question(20, failsAt, 0);
            house.writer(20, failsAt, 0, 1);
            house.reason(20, failsAt);
            check.due("run(1000)", house.run(1000), 20 + 21 + 21);
            for (int work = 0; work < 3; work++) {
                check.due("told(" + work + ", 1), failing at " + failsAt, house.told(work, 1), 2);
                check.due("told(" + work + ", 2), failing at " + failsAt, house.told(work, 2), 20);
            }
        }
    }

    private static void theStepIsNotDone(Check check) {
        check.says("FAILS in the place of its k-th step, if it comes to that.");
        HouseWorkers house = Houses.counted();
        house.question(3, 2, 4);
        check.dueTurns(house, 0, 1, 3, 0);
        check.dueTold(house, 0, 0, 3, 1, 5, 0, 1);
        check.dueEnd(house, 0, 0, 3, 2);
    }
}
