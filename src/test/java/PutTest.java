/** Promise 2: put. */
public final class PutTest {
    public static void main(String[] args) {
        Check check = new Check("Promise 2: put");
        theFirstAndTheLastCell(check);
        theLeastAndTheGreatestNumber(check);
        theLastPutStays(check);
        noSuchCell(check);
        noSuchCellWithAWorker(check);
        aWorkerBegan(check);
        aWorkerThatEndedBeganToo(check);
        aRefusedWorkerDidNotBegin(check);
        closingIsNoWorker(check);
        check.finish();
    }

    private static void theFirstAndTheLastCell(Check check) {
        check.says("A cell of version 0 becomes v: 1.");
        HouseWorkers house = new HouseWorkers();
        check.due("put(0, 4)", house.put(0, 4), 1);
        check.due("put(15, 6)", house.put(15, 6), 1);
        check.dueCells(house, 0, 4, 0, 0, 0, 0, 0, 0, 0, 0, 0, 0, 0, 0, 0, 0, 6);
        check.dueCount(house, 0, 1);
    }

    private static void theLeastAndTheGreatestNumber(Check check) {
        check.says("A cell of version 0 becomes v: 1.");
        HouseWorkers house = new HouseWorkers();
        int[] numbers = {Houses.LEAST, Houses.GREATEST, 0, -1, -2, -3};
        for (int v : numbers) {
            check.due("put(7, " + v + ")", house.put(7, v), 1);
            check.due("cell(0, 7)", house.cell(0, 7), v);
        }
    }

    private static void theLastPutStays(Check check) {
        check.says("A cell of version 0 becomes v: 1.");
        HouseWorkers house = new HouseWorkers();
        int[] want = new int[16];
        for (int cell = 0; cell < 16; cell++) {
            want[cell] = cell * cell - 50;
            check.due("put", house.put(cell, 99), 1);
            check.due("put again", house.put(cell, want[cell]), 1);
        }
        check.dueCells(house, 0, want);
    }

    private static void noSuchCell(Check check) {
        check.says("BAD: no such cell");
        HouseWorkers house = Houses.counted();
        int[] seen = Houses.seen(house);
        int[] wrong = {-1, 16, 17, Houses.LEAST, Houses.GREATEST};
        for (int cell : wrong) {
            check.due("put(" + cell + ", 9)", house.put(cell, 9), -1);
        }
        check.dueSame("put of no such cell", house, seen);
    }

    private static void noSuchCellWithAWorker(Check check) {
        check.says("BAD: no such cell; NO: a worker began already.");
        HouseWorkers house = new HouseWorkers();
        house.stream();
        check.due("put(-1, 9)", house.put(-1, 9), -1);
        check.due("put(0, 9)", house.put(0, 9), -2);
        check.due("put(15, 9)", house.put(15, 9), -2);
        check.due("put(16, 9)", house.put(16, 9), -1);
    }

    private static void aWorkerBegan(Check check) {
        check.says("NO: a worker began already.");
        for (int kind = 0; kind < Houses.KINDS; kind++) {
            HouseWorkers house = new HouseWorkers();
            house.put(3, 4);
            Houses.begin(house, kind);
            int[] seen = Houses.seen(house);
            check.due("put(3, 9) with kind " + kind, house.put(3, 9), -2);
            check.dueSame("put(3, 9) with kind " + kind, house, seen);
        }
    }

    private static void aWorkerThatEndedBeganToo(Check check) {
        check.says("NO: a worker began already.");
        HouseWorkers house = new HouseWorkers();
        house.question(1, 1, 0);
        house.turn(0);
        check.due("put(3, 9) when it failed", house.put(3, 9), -2);
        house.close();
        check.due("put(3, 9) when closed", house.put(3, 9), -2);
        check.due("cell(0, 3)", house.cell(0, 3), 0);
    }

    private static void aRefusedWorkerDidNotBegin(Check check) {
        check.says("NO: a worker began already.");
        HouseWorkers house = new HouseWorkers();
        house.question(0, 0, 0);
        house.writer(1, 31, 0, 1);
        house.reason(21, 0);
        check.due("put(3, 9)", house.put(3, 9), 1);
        check.due("cell(0, 3)", house.cell(0, 3), 9);
    }

    private static void closingIsNoWorker(Check check) {
        check.says("NO: a worker began already.");
        HouseWorkers house = Houses.closed();
        check.due("put(2, 5) in a closed house", house.put(2, 5), 1);
        check.due("cell(0, 2)", house.cell(0, 2), 5);
        house.stream();
        check.due("put(2, 6) behind a refused stream", house.put(2, 6), 1);
    }
}
