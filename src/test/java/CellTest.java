/** Promise 13: cell. */
public final class CellTest {
    public static void main(String[] args) {
        Check check = new Check();
        keptForAQuestion(check);
        keptForAStream(check);
        goneForGood(check);
        wrongArguments(check);
        check.finish();
    }

    private static void commitOne(HouseWorkers house) {
        int work = house.writer(1, 0, 0, 1);
        house.turn(work);
        house.turn(work);
    }

    private static void keptForAQuestion(Check check) {
        HouseWorkers house = new HouseWorkers();
        house.put(5, 50);
        commitOne(house);
        int question = house.question(2, 0, 0);
        commitOne(house);
        commitOne(house);
        check.due("cell(0, 5)", house.cell(0, 5), -2);
        check.due("cell(1, 5)", house.cell(1, 5), 50);
        check.due("cell(1, 0)", house.cell(1, 0), 1);
        check.due("cell(2, 0)", house.cell(2, 0), -2);
        check.due("cell(3, 0)", house.cell(3, 0), 3);
        check.dueTurns(house, question, 1, 2);
        check.due("cell(1, 5)", house.cell(1, 5), -2);
        check.due("cell(3, 5)", house.cell(3, 5), 50);
    }

    private static void keptForAStream(Check check) {
        HouseWorkers house = new HouseWorkers();
        int stream = house.stream();
        commitOne(house);
        commitOne(house);
        commitOne(house);
        check.due("cell(0, 0)", house.cell(0, 0), -2);
        for (int version = 1; version <= 3; version++) {
            check.due("cell(" + version + ", 0)", house.cell(version, 0), version);
        }
        check.dueTurns(house, stream, 1);
        check.due("cell(1, 0)", house.cell(1, 0), -2);
        check.due("cell(2, 0)", house.cell(2, 0), 2);
        check.dueTurns(house, stream, 1, 1, 0);
        check.due("cell(2, 0)", house.cell(2, 0), -2);
        check.due("cell(3, 0)", house.cell(3, 0), 3);
    }

    private static void goneForGood(Check check) {
        HouseWorkers house = new HouseWorkers();
        commitOne(house);
        check.due("cell(0, 0)", house.cell(0, 0), -2);
        house.stream();
        house.question(1, 0, 0);
        house.reason(1, 0);
        check.due("cell(0, 0)", house.cell(0, 0), -2);
        check.due("cell(1, 0)", house.cell(1, 0), 1);
    }

    private static void wrongArguments(Check check) {
        HouseWorkers house = new HouseWorkers();
        commitOne(house);
        int[] wrong = {-1, 16, Integer.MIN_VALUE, Integer.MAX_VALUE};
        for (int w : wrong) {
            check.due("cell(1, " + w + ")", house.cell(1, w), -1);
            check.due("cell(0, " + w + ")", house.cell(0, w), -1);
            check.due("cell(" + w + ", 0)", house.cell(w, 0), -1);
            check.due("cell(" + w + ", " + w + ")", house.cell(w, w), -1);
        }
        check.due("cell(2, 0)", house.cell(2, 0), -1);
    }
}
