/** Promise 14: count. */
public final class CountTest {
    public static void main(String[] args) {
        Check check = new Check("Promise 14: count");
        howManyVersionsThereWere(check);
        theMostVersions(check);
        howManyAreKept(check);
        howManyArePinned(check);
        turnsThatDidSomething(check);
        turnsThatDidNothing(check);
        thoseThatGoOn(check);
        askingChangesNothing(check);
        noSuchWhat(check);
        check.finish();
    }

    private static void howManyVersionsThereWere(Check check) {
        check.says("How many versions there were (what = 0)");
        HouseWorkers house = new HouseWorkers();
        check.dueCount(house, 0, 1);
        house.writer(1, 0, 0, 1);
        house.turn(0);
        check.dueCount(house, 0, 1);
        house.turn(0);
        check.dueCount(house, 0, 2);
        house.writer(1, 1, 0, 1);
        house.turn(1);
        house.reason(1, 0);
        Houses.stop(house, 2);
        check.dueCount(house, 0, 2);
        house.reason(1, 0);
        house.run(1000);
        check.dueCount(house, 0, 3);
        house.close();
        check.dueCount(house, 0, 3);
    }

    private static void theMostVersions(Check check) {
        check.says("How many versions there were (what = 0)");
        HouseWorkers house = new HouseWorkers();
        for (int i = 0; i < 30; i++) {
            house.writer(1, 0, i % 16, 1);
        }
        check.due("run(1000)", house.run(1000), 60);
        check.dueCount(house, 0, 31);
        check.dueCount(house, 1, 1);
        check.dueCells(house, 30, 2, 2, 2, 2, 2, 2, 2, 2, 2, 2, 2, 2, 2, 2, 1, 1);
        check.due("cell(31, 0)", house.cell(31, 0), -1);
    }

    private static void howManyAreKept(Check check) {
        check.says("are kept (1)");
        HouseWorkers house = new HouseWorkers();
        check.dueCount(house, 1, 1);
        house.question(1, 0, 0);
        house.stream();
        check.dueCount(house, 1, 1);
        for (int version = 1; version <= 3; version++) {
            Houses.commitOne(house);
            check.dueCount(house, 1, version + 1);
        }
        house.turn(1);
        check.dueCount(house, 1, 3);
        house.turn(0);
        check.dueCount(house, 1, 2);
        house.turn(1);
        check.dueCount(house, 1, 1);
        house.turn(1);
        check.dueCount(house, 1, 1);
    }

    private static void howManyArePinned(Check check) {
        check.says("are pinned by workers (2)");
        HouseWorkers house = new HouseWorkers();
        house.stream();
        house.writer(2, 0, 0, 1);
        check.dueCount(house, 2, 0);
        house.question(1, 0, 0);
        house.question(1, 0, 0);
        check.dueCount(house, 2, 1);
        house.turn(2);
        check.dueCount(house, 2, 1);
        check.dueTurns(house, 1, 1, 1, 2);
        check.dueCount(house, 2, 1);
        house.question(1, 0, 0);
        check.dueCount(house, 2, 2);
        house.turn(3);
        check.dueCount(house, 2, 1);
        house.close();
        check.dueCount(house, 2, 0);
    }

    private static void turnsThatDidSomething(Check check) {
        check.says("turns that did something (3)");
        HouseWorkers house = new HouseWorkers();
        house.writer(1, 0, 0, 1);
        house.question(1, 1, 0);
        house.stream();
        house.stream();
        house.turn(2);
        check.dueCount(house, 3, 0);
        house.turn(0);
        check.dueCount(house, 3, 1);
        house.turn(0);
        house.turn(0);
        check.dueCount(house, 3, 2);
        house.turn(1);
        check.dueCount(house, 3, 3);
        house.cancel(2);
        check.dueCount(house, 3, 3);
        house.turn(2);
        check.dueCount(house, 3, 4);
        house.turn(3);
        check.dueCount(house, 3, 5);
        house.close();
        check.dueCount(house, 3, 5);
    }

    private static void turnsThatDidNothing(Check check) {
        check.says("turns of workers that had not ended that did nothing (4)");
        HouseWorkers house = new HouseWorkers();
        house.question(1, 0, 0);
        house.stream();
        house.turn(0);
        check.dueCount(house, 4, 0);
        house.turn(0);
        check.dueCount(house, 4, 0);
        house.turn(1);
        check.dueCount(house, 4, 1);
        house.turn(9);
        check.dueCount(house, 4, 1);
        house.run(1);
        check.dueCount(house, 4, 2);
        Houses.stop(house, 1);
        house.turn(1);
        house.run(1);
        check.dueCount(house, 4, 2);
    }

    private static void thoseThatGoOn(Check check) {
        check.says("workers that go on (5)");
        HouseWorkers house = new HouseWorkers();
        for (int kind = 0; kind < Houses.KINDS; kind++) {
            check.dueCount(house, 5, kind);
            Houses.begin(house, kind);
        }
        house.question(1, 1, 0);
        check.dueCount(house, 5, 5);
        house.cancel(3);
        check.dueCount(house, 5, 5);
        house.turn(3);
        check.dueCount(house, 5, 4);
        house.turn(4);
        check.dueCount(house, 5, 3);
        house.turn(0);
        check.dueCount(house, 5, 2);
        house.turn(1);
        check.dueCount(house, 5, 2);
        house.turn(1);
        check.dueCount(house, 5, 1);
        house.close();
        check.dueCount(house, 5, 0);
    }

    private static void askingChangesNothing(Check check) {
        check.says("How many");
        HouseWorkers house = new HouseWorkers();
        house.stream();
        Houses.commitOne(house);
        int[] seen = Houses.seen(house);
        for (int what = -1; what <= 6; what++) {
            house.count(what);
        }
        check.dueSame("count", house, seen);
    }

    private static void noSuchWhat(Check check) {
        check.says("BAD.");
        HouseWorkers house = new HouseWorkers();
        int[] wrong = {-1, 6, Houses.LEAST, Houses.GREATEST};
        for (int what : wrong) {
            check.due("count(" + what + ")", house.count(what), -1);
        }
        house.close();
        check.due("count(6) when closed", house.count(6), -1);
    }
}
