/** Terms: the store, its versions and cells. */
public final class StoreTermsTest {
    public static void main(String[] args) {
        Check check = new Check("Terms");
        versionsAreNumberedFrom0(check);
        sixteenCells(check);
        aDraftWraps(check);
        aCommitWrapsAboveAndBelow(check);
        theAnswerOfAQuestionWraps(check);
        theSumAndAnswerOfAStreamWrap(check);
        version0HasWhatWasPut(check);
        version0HasNothingThatWasRefused(check);
        theLatestIsVersion0AtFirst(check);
        theLatestIsCommittedLast(check);
        check.finish();
    }

    private static void versionsAreNumberedFrom0(Check check) {
        check.says("THE STORE has VERSIONS, numbered from 0");
        HouseWorkers house = new HouseWorkers();
        check.due("cell(0, 0)", house.cell(0, 0), 0);
        check.due("cell(-1, 0)", house.cell(-1, 0), -1);
        for (int version = 1; version <= 30; version++) {
            check.due("cell(" + version + ", 0)", house.cell(version, 0), -1);
            int writer = Houses.commitOne(house);
            check.due("told(" + writer + ", 4)", house.told(writer, 4), version);
            check.due("cell(" + version + ", 0)", house.cell(version, 0), version);
        }
        check.due("cell(31, 0)", house.cell(31, 0), -1);
    }

    private static void sixteenCells(Check check) {
        check.says("each 16 CELLS");
        HouseWorkers house = Houses.counted();
        Houses.commitOne(house);
        for (int cell = 1; cell < 16; cell++) {
            check.due("cell(1, " + cell + ")", house.cell(1, cell), cell + 1);
        }
        check.due("cell(1, -1)", house.cell(1, -1), -1);
        check.due("cell(1, 16)", house.cell(1, 16), -1);
    }

    private static void aDraftWraps(Check check) {
        check.says("(numbers, sums wrap)");
        HouseWorkers house = new HouseWorkers();
        house.writer(17, 0, 5, Houses.GREATEST);
        house.writer(17, 0, 9, Houses.LEAST);
        house.run(1000);
        check.due("cell(2, 5)", house.cell(2, 5), Houses.LEAST - 2);
        check.due("cell(2, 9)", house.cell(2, 9), Houses.GREATEST);
        check.due("cell(2, 10)", house.cell(2, 10), -1);
    }

    private static void aCommitWrapsAboveAndBelow(Check check) {
        check.says("(numbers, sums wrap)");
        HouseWorkers house = new HouseWorkers();
        house.put(0, Houses.GREATEST);
        house.put(1, Houses.LEAST);
        house.writer(1, 0, 0, 1);
        house.writer(1, 0, 1, -1);
        house.run(1000);
        check.due("cell(2, 0)", house.cell(2, 0), Houses.LEAST);
        check.due("cell(2, 1)", house.cell(2, 1), Houses.GREATEST);
    }

    private static void theAnswerOfAQuestionWraps(Check check) {
        check.says("(numbers, sums wrap)");
        HouseWorkers house = new HouseWorkers();
        house.put(0, Houses.GREATEST);
        house.put(1, Houses.LEAST);
        house.question(2, 0, 0);
        house.turn(0);
        check.due("told(0, 3)", house.told(0, 3), 2147483647);
        house.turn(0);
        // 31 times the greatest is -31 behind the wrap-around, and the least turns its first bit.
        check.due("told(0, 3)", house.told(0, 3), -31);
    }

    private static void theSumAndAnswerOfAStreamWrap(Check check) {
        check.says("(numbers, sums wrap)");
        HouseWorkers house = new HouseWorkers();
        house.put(0, Houses.GREATEST);
        house.put(1, Houses.GREATEST);
        house.stream();
        house.writer(1, 0, 15, Houses.GREATEST);
        house.writer(1, 0, 15, 0);
        house.turn(1);
        house.turn(1);
        house.turn(0);
        // Three times the greatest is 2147483645 behind the wrap-around.
        check.due("told(0, 3)", house.told(0, 3), 2147483645);
        house.run(1000);
        check.due("told(0, 3)", house.told(0, 3), -96);
    }

    private static void version0HasWhatWasPut(Check check) {
        check.says("Version 0 has the cells that were put before anything began");
        HouseWorkers house = new HouseWorkers();
        house.put(0, 3);
        house.put(15, -4);
        house.question(2, 0, 15);
        house.run(1000);
        check.due("told(0, 3)", house.told(0, 3), -4 * 31 + 3);
        check.dueCells(house, 0, 3, 0, 0, 0, 0, 0, 0, 0, 0, 0, 0, 0, 0, 0, 0, -4);
    }

    private static void version0HasNothingThatWasRefused(Check check) {
        check.says("Version 0 has the cells that were put before anything began");
        HouseWorkers house = new HouseWorkers();
        house.put(16, 5);
        house.stream();
        house.put(0, 5);
        check.dueCells(house, 0, new int[16]);
        Houses.commitOne(house);
        house.put(0, 5);
        check.due("cell(1, 0)", house.cell(1, 0), 1);
    }

    private static void theLatestIsVersion0AtFirst(Check check) {
        check.says("the LATEST one is that which was committed last");
        HouseWorkers house = new HouseWorkers();
        house.question(1, 0, 0);
        house.stream();
        house.writer(1, 1, 0, 1);
        house.turn(2);
        house.question(1, 0, 0);
        check.due("told(0, 4)", house.told(0, 4), 0);
        check.due("told(1, 4)", house.told(1, 4), 0);
        check.due("told(3, 4)", house.told(3, 4), 0);
    }

    private static void theLatestIsCommittedLast(Check check) {
        check.says("the LATEST one is that which was committed last");
        HouseWorkers house = new HouseWorkers();
        Houses.commitOne(house);
        check.due("told of a question", house.told(house.question(1, 0, 0), 4), 1);
        Houses.commitOne(house);
        check.due("told of a stream", house.told(house.stream(), 4), 2);
        int reasoning = house.reason(1, 0);
        check.dueTurns(house, reasoning, 1, 2);
        check.due("told of a question", house.told(house.question(1, 0, 0), 4), 3);
        Houses.stop(house, house.writer(1, 0, 0, 1));
        check.due("told of a question", house.told(house.question(1, 0, 0), 4), 3);
    }
}
