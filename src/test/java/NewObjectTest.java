/** Promise 1: a new object. */
public final class NewObjectTest {
    public static void main(String[] args) {
        Check check = new Check("Promise 1: A new object");
        noWorkers(check);
        zerosInVersion0(check);
        theHouseIsOpen(check);
        objectsShareNothing(check);
        check.finish();
    }

    private static void noWorkers(Check check) {
        check.says("No workers");
        HouseWorkers house = new HouseWorkers();
        check.due("turn(0)", house.turn(0), -1);
        check.due("cancel(0)", house.cancel(0), -1);
        check.due("told(0, 0)", house.told(0, 0), -1);
        check.dueEnd(house, 0, -2, -2, -2);
        check.due("run(1000)", house.run(1000), 0);
        check.dueCount(house, 3, 0);
        check.dueCount(house, 4, 0);
        check.dueCount(house, 5, 0);
    }

    private static void zerosInVersion0(Check check) {
        check.says("version 0 has 0s");
        HouseWorkers house = new HouseWorkers();
        check.dueCells(house, 0, new int[16]);
        check.due("cell(1, 0)", house.cell(1, 0), -1);
        check.dueCount(house, 0, 1);
        check.dueCount(house, 1, 1);
        check.dueCount(house, 2, 0);
    }

    private static void theHouseIsOpen(Check check) {
        check.says("the house is open");
        for (int kind = 0; kind < Houses.KINDS; kind++) {
            HouseWorkers house = new HouseWorkers();
            check.due("the first worker of kind " + kind, Houses.begin(house, kind), 0);
        }
        check.due("close()", new HouseWorkers().close(), 0);
    }

    private static void objectsShareNothing(Check check) {
        check.says("No workers; version 0 has 0s; the house is open.");
        HouseWorkers one = new HouseWorkers();
        one.put(0, 7);
        Houses.commitOne(one);
        one.close();
        HouseWorkers other = new HouseWorkers();
        check.due("cell(0, 0) of another", other.cell(0, 0), 0);
        check.dueCount(other, 0, 1);
        check.due("put(1, 3) of another", other.put(1, 3), 1);
        check.due("reason(1, 0) of another", other.reason(1, 0), 0);
        check.due("cell(1, 0) of the one", one.cell(1, 0), 8);
    }
}
