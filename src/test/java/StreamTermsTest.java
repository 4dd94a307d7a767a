/** Terms: what a stream does. */
public final class StreamTermsTest {
    public static void main(String[] args) {
        Check check = new Check("Terms");
        getsEachVersionOnce(check);
        theFirstIsBehindTheLatest(check);
        twoStreamsGetThemEach(check);
        addsTheSumOfAllCells(check);
        waitsWhenThereIsNone(check);
        neverDone(check);
        check.finish();
    }

    private static void getsEachVersionOnce(Check check) {
        check.says("STREAM: each step gets the version behind the one that it got last");
        HouseWorkers house = new HouseWorkers();
        house.stream();
        Houses.commitOne(house);
        Houses.commitOne(house);
        Houses.commitOne(house);
        for (int version = 1; version <= 3; version++) {
            check.dueTurns(house, 0, 1);
            check.due("told(0, 4)", house.told(0, 4), version);
        }
        check.dueTurns(house, 0, 0);
        check.due("told(0, 4)", house.told(0, 4), 3);
        check.due("told(0, 3)", house.told(0, 3), (31 + 2) * 31 + 3);
    }

    private static void theFirstIsBehindTheLatest(Check check) {
        check.says("(the first one that behind the version that was the latest when it began)");
        HouseWorkers house = new HouseWorkers();
        Houses.commitOne(house);
        house.stream();
        check.dueTurns(house, 1, 0);
        check.due("told(1, 4)", house.told(1, 4), 1);
        Houses.commitOne(house);
        check.dueTurns(house, 1, 1);
        check.dueTold(house, 1, 3, 0, 1, 2, 2, 1);
    }

    private static void twoStreamsGetThemEach(Check check) {
        check.says("STREAM: each step gets the version behind the one that it got last");
        HouseWorkers house = new HouseWorkers();
        house.stream();
        house.stream();
        Houses.commitOne(house);
        Houses.commitOne(house);
        check.dueTurns(house, 0, 1, 1, 0);
        check.due("told(1, 2)", house.told(1, 2), 0);
        check.dueTurns(house, 1, 1, 1, 0);
        check.due("told(0, 3)", house.told(0, 3), 33);
        check.due("told(1, 3)", house.told(1, 3), 33);
    }

    private static void addsTheSumOfAllCells(Check check) {
        check.says("its answer becomes 31 times the answer and the sum of that version's cells.");
        HouseWorkers house = Houses.counted();
        house.stream();
        check.due("told(0, 3)", house.told(0, 3), 0);
        house.writer(1, 0, 15, -1000);
        house.reason(1, 0);
        house.run(1000);
        // 1 .. 15 and -984; then cell 15 has 15, the one before it, and all others stay.
        check.due("told(0, 3)", house.told(0, 3), -864 * 31 + 135);
    }

    private static void waitsWhenThereIsNone(Check check) {
        check.says("It waits when there is none");
        HouseWorkers house = new HouseWorkers();
        house.stream();
        check.due("told(0, 5)", house.told(0, 5), 1);
        check.dueTurns(house, 0, 0, 0);
        check.dueCount(house, 4, 2);
        house.writer(1, 0, 0, 1);
        house.turn(1);
        check.dueTurns(house, 0, 0);
        house.turn(1);
        check.due("told(0, 5)", house.told(0, 5), 0);
        check.dueTurns(house, 0, 1, 0);
        check.due("told(0, 5)", house.told(0, 5), 1);
        check.due("told(0, 2)", house.told(0, 2), 1);
    }

    private static void neverDone(Check check) {
        check.says("it is never DONE.");
        HouseWorkers house = new HouseWorkers();
        house.stream();
        for (int version = 1; version <= 29; version++) {
            Houses.commitOne(house);
            check.dueTurns(house, 0, 1);
        }
        check.dueTurns(house, 0, 0);
        check.due("told(0, 1)", house.told(0, 1), 0);
        check.due("told(0, 2)", house.told(0, 2), 29);
        check.due("told(0, 4)", house.told(0, 4), 29);
        check.due("run(1000)", house.run(1000), 0);
        check.dueCount(house, 5, 1);
    }
}
