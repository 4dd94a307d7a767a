/** Promise 9: cancel. */
public final class CancelTest {
    public static void main(String[] args) {
        Check check = new Check("Promise 9: cancel");
        itIsOnlyToldSo(check);
        oneThatWaits(check);
        itHasEnded(check);
        itWasToldSoAlready(check);
        noSuchWorker(check);
        noSuchWorkerInAFullHouse(check);
        check.finish();
    }

    private static void itIsOnlyToldSo(Check check) {
        check.says("A worker is told to be cancelled: 1");
        for (int kind = 0; kind < Houses.KINDS; kind++) {
            HouseWorkers house = new HouseWorkers();
            Houses.begin(house, kind);
            check.due("cancel(0) of kind " + kind, house.cancel(0), 1);
            check.due("told(0, 1)", house.told(0, 1), 0);
            check.due("told(0, 5)", house.told(0, 5), 0);
            check.dueEnd(house, 0, -2, -2, -2);
            check.dueCount(house, 3, 0);
            check.dueCount(house, 5, 1);
        }
    }

    private static void oneThatWaits(Check check) {
        check.says("A worker is told to be cancelled: 1");
        HouseWorkers house = new HouseWorkers();
        house.reason(1, 0);
        house.reason(1, 0);
        house.turn(1);
        check.due("cancel(1)", house.cancel(1), 1);
        check.due("told(1, 5)", house.told(1, 5), 0);
        check.due("told(0, 5)", house.told(0, 5), 0);
        check.dueTurns(house, 1, 4);
        check.dueTurns(house, 0, 1, 2);
    }

    private static void itHasEnded(Check check) {
        check.says("0 when it has ended");
        HouseWorkers house = new HouseWorkers();
        house.question(1, 0, 0);
        house.question(1, 1, 0);
        house.stream();
        house.stream();
        house.run(1000);
        Houses.stop(house, 2);
        house.close();
        int[] seen = Houses.seen(house);
        for (int work = 0; work < 4; work++) {
            check.due("cancel(" + work + ")", house.cancel(work), 0);
        }
        check.dueSame("cancel of one that has ended", house, seen);
    }

    private static void itWasToldSoAlready(Check check) {
        check.says("or was told so already");
        HouseWorkers house = new HouseWorkers();
        house.stream();
        check.due("cancel(0)", house.cancel(0), 1);
        int[] seen = Houses.seen(house);
        check.due("cancel(0) again", house.cancel(0), 0);
        check.due("cancel(0) once more", house.cancel(0), 0);
        check.dueSame("cancel again", house, seen);
        check.dueTurns(house, 0, 4, 0);
        check.due("cancel(0) when it is cancelled", house.cancel(0), 0);
    }

    private static void noSuchWorker(Check check) {
        check.says("BAD.");
        HouseWorkers house = new HouseWorkers();
        check.due("cancel(0) without workers", house.cancel(0), -1);
        house.stream();
        int[] seen = Houses.seen(house);
        int[] wrong = {-1, 1, 29, 30, Houses.LEAST, Houses.GREATEST};
        for (int work : wrong) {
            check.due("cancel(" + work + ")", house.cancel(work), -1);
        }
        check.dueSame("cancel of no such worker", house, seen);
    }

    private static void noSuchWorkerInAFullHouse(Check check) {
        check.says("BAD.");
        HouseWorkers house = Houses.full();
        check.due("cancel(30)", house.cancel(30), -1);
        check.due("cancel(29)", house.cancel(29), 1);
        house.close();
        check.due("cancel(30) when closed", house.cancel(30), -1);
    }
}
