/** Promise 1: no workers; version 0 has 0s; the house is open. */
public final class NewObjectTest {
    public static void main(String[] args) {
        Check check = new Check();
        constants(check);
        nothingHasHappened(check);
        theHouseIsOpen(check);
        objectsShareNothing(check);
        check.finish();
    }

    private static void constants(Check check) {
        check.due("BAD", HouseWorkers.BAD, -1);
        check.due("NO", HouseWorkers.NO, -2);
        check.due("FULL", HouseWorkers.FULL, -3);
    }

    private static void nothingHasHappened(Check check) {
        HouseWorkers house = new HouseWorkers();
        check.due("turn(0)", house.turn(0), -1);
        check.due("told(0, 0)", house.told(0, 0), -1);
        check.due("ended(0, 0)", house.ended(0, 0), -2);
        check.due("run(1000)", house.run(1000), 0);
        check.dueCells(house, 0, new int[16]);
        check.due("cell(1, 0)", house.cell(1, 0), -1);
        int[] counts = {1, 1, 0, 0, 0, 0};
        for (int what = 0; what < counts.length; what++) {
            check.due("count(" + what + ")", house.count(what), counts[what]);
        }
    }

    private static void theHouseIsOpen(Check check) {
        HouseWorkers house = new HouseWorkers();
        check.due("stream()", house.stream(), 0);
        check.due("close()", house.close(), 1);
    }

    private static void objectsShareNothing(Check check) {
        HouseWorkers one = new HouseWorkers();
        one.put(0, 7);
        one.writer(1, 0, 0, 1);
        one.run(1000);
        one.close();
        HouseWorkers other = new HouseWorkers();
        check.due("put(1, 3) of another", other.put(1, 3), 1);
        check.due("cell(0, 0) of another", other.cell(0, 0), 0);
        check.due("count(0) of another", other.count(0), 1);
        check.due("reason(1, 0) of another", other.reason(1, 0), 0);
    }
}
