/** Promise 7: turn. */
public final class TurnTest {
    public static void main(String[] args) {
        Check check = new Check("Promise 7: turn");
        itWaits(check);
        itHasEndedBefore(check);
        itDidAStepAndGoesOn(check);
        itsLastStepLeavesTheCommit(check);
        itIsDone(check);
        itFailed(check);
        itIsCancelled(check);
        onlyTheOneGetsATurn(check);
        noSuchWorker(check);
        noSuchWorkerInAFullHouse(check);
        check.finish();
    }

    private static void itWaits(Check check) {
        check.says("A worker gets a turn: 0 it waits");
        HouseWorkers house = new HouseWorkers();
        house.writer(1, 0, 0, 1);
        house.writer(1, 0, 0, 1);
        house.reason(1, 0);
        house.stream();
        check.dueTurns(house, 1, 1, 0, 0);
        check.dueTurns(house, 2, 0, 0);
        check.dueTurns(house, 3, 0, 0);
        check.dueCount(house, 4, 6);
    }

    private static void itHasEndedBefore(Check check) {
        check.says("or has ended before");
        HouseWorkers house = new HouseWorkers();
        house.question(1, 0, 0);
        house.question(1, 1, 0);
        house.stream();
        house.stream();
        house.run(1000);
        Houses.stop(house, 2);
        house.close();
        int[] seen = Houses.seen(house);
        for (int work = 0; work < 4; work++) {
            check.dueTurns(house, work, 0, 0);
        }
        check.dueSame("a turn of one that has ended", house, seen);
    }

    private static void itDidAStepAndGoesOn(Check check) {
        check.says("1 it did a step and goes on");
        HouseWorkers house = new HouseWorkers();
        house.stream();
        house.question(2, 0, 0);
        house.writer(2, 0, 0, 1);
        check.dueTurns(house, 1, 1);
        check.dueTurns(house, 2, 1);
        check.dueTurns(house, 2, 1, 2);
        check.dueTurns(house, 0, 1);
        check.due("told(0, 1)", house.told(0, 1), 0);
        house.reason(2, 0);
        check.dueTurns(house, 3, 1);
        check.due("told(3, 2)", house.told(3, 2), 1);
    }

    private static void itsLastStepLeavesTheCommit(Check check) {
        check.says("1 it did a step and goes on");
        HouseWorkers house = new HouseWorkers();
        house.writer(1, 0, 0, 1);
        check.dueTurns(house, 0, 1);
        check.due("told(0, 1) of a writer", house.told(0, 1), 0);
        check.dueTurns(house, 0, 2);
        house.reason(1, 0);
        check.dueTurns(house, 1, 1);
        check.due("told(1, 1) of a reasoning", house.told(1, 1), 0);
        check.dueTurns(house, 1, 2);
    }

    private static void itIsDone(Check check) {
        check.says("2 it is DONE now");
        HouseWorkers house = new HouseWorkers();
        house.question(1, 0, 0);
        check.dueTurns(house, 0, 2, 0);
        house.question(20, 0, 0);
        for (int step = 1; step < 20; step++) {
            check.dueTurns(house, 1, 1);
        }
        check.dueTurns(house, 1, 2, 0);
        house.writer(1, 0, 0, 1);
        check.dueTurns(house, 2, 1, 2, 0);
        house.reason(1, 0);
        check.dueTurns(house, 3, 1, 2, 0);
    }

    private static void itFailed(Check check) {
        check.says("3 FAILED");
        HouseWorkers house = new HouseWorkers();
        for (int kind = 0; kind < Houses.STREAM; kind++) {
            int work = Houses.begin(house, kind, 1);
            check.dueTurns(house, work, 3, 0);
            check.due("told(" + work + ", 1)", house.told(work, 1), 3);
        }
        check.dueCount(house, 3, 3);
    }

    private static void itIsCancelled(Check check) {
        check.says("4 CANCELLED");
        HouseWorkers house = new HouseWorkers();
        for (int kind = 0; kind < Houses.KINDS; kind++) {
            int work = Houses.begin(house, kind);
            house.cancel(work);
            check.dueTurns(house, work, 4, 0);
            check.due("told(" + work + ", 1)", house.told(work, 1), 4);
        }
        check.dueCount(house, 3, 4);
    }

    private static void onlyTheOneGetsATurn(Check check) {
        check.says("A worker gets a turn");
        HouseWorkers house = new HouseWorkers();
        house.question(3, 0, 0);
        house.question(3, 0, 0);
        house.question(3, 0, 0);
        check.dueTurns(house, 1, 1);
        check.due("told(0, 2)", house.told(0, 2), 0);
        check.due("told(1, 2)", house.told(1, 2), 1);
        check.due("told(2, 2)", house.told(2, 2), 0);
        check.dueCount(house, 3, 1);
    }

    private static void noSuchWorker(Check check) {
        check.says("BAD.");
        HouseWorkers house = new HouseWorkers();
        check.due("turn(0) without workers", house.turn(0), -1);
        house.question(2, 0, 0);
        int[] seen = Houses.seen(house);
        int[] wrong = {-1, 1, 29, 30, Houses.LEAST, Houses.GREATEST};
        for (int work : wrong) {
            check.due("turn(" + work + ")", house.turn(work), -1);
        }
        check.dueSame("turn of no such worker", house, seen);
    }

    private static void noSuchWorkerInAFullHouse(Check check) {
        check.says("BAD.");
        HouseWorkers house = Houses.full();
        check.due("turn(30)", house.turn(30), -1);
        check.due("turn(29)", house.turn(29), 2);
        house.close();
        check.due("turn(30) when closed", house.turn(30), -1);
        check.due("turn(-1) when closed", house.turn(-1), -1);
        check.due("turn(28) when closed", house.turn(28), 0);
    }
}
