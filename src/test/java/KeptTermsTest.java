/** Terms: which versions are kept, and which are gone. */
public final class KeptTermsTest {
    public static void main(String[] args) {
        Check check = new Check("Terms");
        theLatestIsKept(check);
        pinnedOnesAreKept(check);
        pinnedByTwo(check);
        pinnedByAReasoning(check);
        thoseThatAStreamDidNotGetYet(check);
        theSlowestStreamCounts(check);
        aLaterStreamKeepsNoEarlierOne(check);
        anEndedStreamKeepsNone(check);
        pinnedAndNotGotYet(check);
        goneForGood(check);
        theMostThatCanBeKept(check);
        check.finish();
    }

    /** What count(1) and cell() say of all versions: which are kept, and no others. */
    private static void dueKept(Check check, HouseWorkers house, int... kept) {
        check.dueCount(house, 1, kept.length);
        int at = 0;
        for (int version = 0; version < house.count(0); version++) {
            boolean isKept = at < kept.length && kept[at] == version;
            check.due("cell(" + version + ", 0)", house.cell(version, 0), isKept ? version : -2);
            at += isKept ? 1 : 0;
        }
    }

    private static void theLatestIsKept(Check check) {
        check.says("KEPT are the latest version");
        HouseWorkers house = new HouseWorkers();
        dueKept(check, house, 0);
        for (int version = 1; version <= 3; version++) {
            Houses.commitOne(house);
            dueKept(check, house, version);
        }
        house.close();
        dueKept(check, house, 3);
    }

    private static void pinnedOnesAreKept(Check check) {
        check.says("those that are pinned");
        HouseWorkers house = new HouseWorkers();
        Houses.commitOne(house);
        int question = house.question(2, 0, 0);
        Houses.commitOne(house);
        Houses.commitOne(house);
        dueKept(check, house, 1, 3);
        check.dueTurns(house, question, 1);
        dueKept(check, house, 1, 3);
        check.dueTurns(house, question, 2);
        dueKept(check, house, 3);
    }

    private static void pinnedByTwo(Check check) {
        check.says("those that are pinned");
        HouseWorkers house = new HouseWorkers();
        house.question(1, 0, 0);
        house.question(1, 0, 0);
        Houses.commitOne(house);
        dueKept(check, house, 0, 1);
        house.turn(0);
        dueKept(check, house, 0, 1);
        Houses.stop(house, 1);
        dueKept(check, house, 1);
    }

    private static void pinnedByAReasoning(Check check) {
        check.says("those that are pinned");
        HouseWorkers house = new HouseWorkers();
        Houses.commitOne(house);
        house.reason(1, 0);
        house.turn(1);
        dueKept(check, house, 1);
        check.dueCount(house, 2, 1);
        house.turn(1);
        check.dueCount(house, 1, 1);
        check.due("cell(1, 0)", house.cell(1, 0), -2);
    }

    private static void thoseThatAStreamDidNotGetYet(Check check) {
        check.says("those that some stream did not get yet");
        HouseWorkers house = new HouseWorkers();
        house.stream();
        Houses.commitOne(house);
        Houses.commitOne(house);
        Houses.commitOne(house);
        dueKept(check, house, 1, 2, 3);
        house.turn(0);
        dueKept(check, house, 2, 3);
        house.turn(0);
        dueKept(check, house, 3);
        house.turn(0);
        dueKept(check, house, 3);
        Houses.commitOne(house);
        dueKept(check, house, 4);
    }

    private static void theSlowestStreamCounts(Check check) {
        check.says("those that some stream did not get yet");
        HouseWorkers house = new HouseWorkers();
        house.stream();
        house.stream();
        Houses.commitOne(house);
        Houses.commitOne(house);
        house.turn(0);
        house.turn(0);
        dueKept(check, house, 1, 2);
        house.turn(1);
        dueKept(check, house, 2);
    }

    private static void aLaterStreamKeepsNoEarlierOne(Check check) {
        check.says("those that some stream did not get yet");
        HouseWorkers house = new HouseWorkers();
        house.question(1, 0, 0);
        Houses.commitOne(house);
        house.stream();
        dueKept(check, house, 0, 1);
        house.turn(0);
        dueKept(check, house, 1);
        Houses.commitOne(house);
        dueKept(check, house, 2);
        Houses.commitOne(house);
        dueKept(check, house, 2, 3);
    }

    private static void anEndedStreamKeepsNone(Check check) {
        check.says("those that some stream did not get yet");
        HouseWorkers house = new HouseWorkers();
        house.stream();
        house.stream();
        Houses.commitOne(house);
        Houses.commitOne(house);
        Houses.stop(house, 0);
        dueKept(check, house, 1, 2);
        house.close();
        dueKept(check, house, 2);
    }

    private static void pinnedAndNotGotYet(Check check) {
        check.says("KEPT are the latest version, those that are pinned, and those that some stream did not get yet");
        HouseWorkers house = new HouseWorkers();
        house.stream();
        Houses.commitOne(house);
        house.question(1, 0, 0);
        Houses.commitOne(house);
        dueKept(check, house, 1, 2);
        house.turn(0);
        dueKept(check, house, 1, 2);
        house.turn(2);
        dueKept(check, house, 2);
        house.turn(0);
        dueKept(check, house, 2);
    }

    private static void goneForGood(Check check) {
        check.says("all others are gone for good.");
        HouseWorkers house = new HouseWorkers();
        Houses.commitOne(house);
        dueKept(check, house, 1);
        house.stream();
        house.question(1, 0, 0);
        house.reason(1, 0);
        dueKept(check, house, 1);
        house.turn(3);
        dueKept(check, house, 1);
        house.close();
        dueKept(check, house, 1);
    }

    private static void theMostThatCanBeKept(Check check) {
        check.says("KEPT are the latest version, those that are pinned, and those that some stream did not get yet");
        HouseWorkers house = new HouseWorkers();
        house.stream();
        house.question(1, 0, 0);
        for (int version = 1; version <= 28; version++) {
            Houses.commitOne(house);
        }
        check.dueCount(house, 1, 29);
        house.turn(1);
        check.dueCount(house, 1, 28);
        check.due("run(27)", house.run(27), 27);
        check.dueCount(house, 1, 1);
        check.due("cell(28, 0)", house.cell(28, 0), 28);
        check.due("cell(27, 0)", house.cell(27, 0), -2);
    }
}
