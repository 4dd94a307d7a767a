/** Promise 2: put. */
public final class PutTest {
    public static void main(String[] args) {
        Check check = new Check();
        cellsBecomeWhatIsPut(check);
        wrongCells(check);
        notOnceAWorkerBegan(check);
        closingAloneDoesNotForbidIt(check);
        check.finish();
    }

    private static void cellsBecomeWhatIsPut(Check check) {
        HouseWorkers house = new HouseWorkers();
        int[] want = new int[16];
        for (int cell = 0; cell < 16; cell++) {
            check.due("put", house.put(cell, -1), 1);
            want[cell] = cell * cell - 50;
            check.due("put again", house.put(cell, want[cell]), 1);
        }
        check.dueCells(house, 0, want);
        check.due("put the least", house.put(0, Integer.MIN_VALUE), 1);
        check.due("put the greatest", house.put(15, Integer.MAX_VALUE), 1);
        check.due("the least", house.cell(0, 0), Integer.MIN_VALUE);
        check.due("the greatest", house.cell(0, 15), Integer.MAX_VALUE);
        check.due("count(0)", house.count(0), 1);
    }

    private static void wrongCells(Check check) {
        HouseWorkers house = new HouseWorkers();
        int[] wrong = {-1, 16, Integer.MIN_VALUE, Integer.MAX_VALUE};
        for (int cell : wrong) {
            check.due("put(" + cell + ", 1)", house.put(cell, 1), -1);
        }
        house.stream();
        for (int cell : wrong) {
            check.due("put(" + cell + ", 1) with a worker", house.put(cell, 1), -1);
        }
    }

    private static void notOnceAWorkerBegan(Check check) {
        for (int kind = 0; kind < 4; kind++) {
            HouseWorkers house = new HouseWorkers();
            house.put(3, 4);
            check.due("begin", begin(house, kind), 0);
            check.due("put with kind " + kind, house.put(3, 9), -2);
            check.due("cell(0, 3)", house.cell(0, 3), 4);
            house.cancel(0);
            house.turn(0);
            check.due("put when it has ended", house.put(3, 9), -2);
        }
        HouseWorkers refused = new HouseWorkers();
        refused.question(0, 0, 0);
        check.due("put behind a refused worker", refused.put(3, 9), 1);
    }

    private static int begin(HouseWorkers house, int kind) {
        if (kind == 0) {
            return house.question(1, 0, 0);
        }
        if (kind == 1) {
            return house.writer(1, 0, 0, 1);
        }
        return kind == 2 ? house.reason(1, 0) : house.stream();
    }

    private static void closingAloneDoesNotForbidIt(Check check) {
        HouseWorkers house = new HouseWorkers();
        check.due("close()", house.close(), 0);
        check.due("put(2, 5) in a closed house", house.put(2, 5), 1);
        check.due("cell(0, 2)", house.cell(0, 2), 5);
    }
}
