/** Promise 13: cell. */
public final class CellTest {
    public static void main(String[] args) {
        Check check = new Check("Promise 13: cell");
        ofEachVersionThatIsKept(check);
        numbersThatLookLikeRefusals(check);
        noSuchCell(check);
        noSuchVersionSoFar(check);
        itIsGone(check);
        whichRefusalComesFirst(check);
        askingChangesNothing(check);
        check.finish();
    }

    private static void ofEachVersionThatIsKept(Check check) {
        check.says("A cell of a version.");
        HouseWorkers house = Houses.counted();
        house.question(1, 0, 0);
        house.writer(2, 0, 15, 100);
        house.turn(1);
        house.turn(1);
        house.turn(1);
        check.dueCells(house, 0, 1, 2, 3, 4, 5, 6, 7, 8, 9, 10, 11, 12, 13, 14, 15, 16);
        check.dueCells(house, 1, 101, 2, 3, 4, 5, 6, 7, 8, 9, 10, 11, 12, 13, 14, 15, 116);
    }

    private static void numbersThatLookLikeRefusals(Check check) {
        check.says("A cell of a version.");
        HouseWorkers house = new HouseWorkers();
        house.put(0, -1);
        house.put(15, -2);
        house.close();
        check.due("cell(0, 0)", house.cell(0, 0), -1);
        check.due("cell(0, 15)", house.cell(0, 15), -2);
        check.due("cell(0, 14)", house.cell(0, 14), 0);
    }

    private static void noSuchCell(Check check) {
        check.says("BAD: no such cell");
        HouseWorkers house = Houses.counted();
        Houses.commitOne(house);
        int[] wrong = {-1, 16, Houses.LEAST, Houses.GREATEST};
        for (int cell : wrong) {
            check.due("cell(1, " + cell + ")", house.cell(1, cell), -1);
        }
        check.due("cell(1, 0)", house.cell(1, 0), 2);
        check.due("cell(1, 15)", house.cell(1, 15), 16);
    }

    private static void noSuchVersionSoFar(Check check) {
        check.says("or version so far");
        HouseWorkers house = new HouseWorkers();
        house.writer(1, 0, 0, 5);
        int[] wrong = {1, 2, 30, 31, -1, Houses.LEAST, Houses.GREATEST};
        for (int version : wrong) {
            check.due("cell(" + version + ", 0)", house.cell(version, 0), -1);
        }
        house.turn(0);
        check.due("cell(1, 0) before the commit", house.cell(1, 0), -1);
        house.turn(0);
        check.due("cell(1, 0) behind the commit", house.cell(1, 0), 5);
        check.due("cell(2, 0)", house.cell(2, 0), -1);
    }

    private static void itIsGone(Check check) {
        check.says("NO: it is gone.");
        HouseWorkers house = Houses.counted();
        Houses.commitOne(house);
        Houses.commitOne(house);
        for (int cell = 0; cell < 16; cell++) {
            check.due("cell(0, " + cell + ")", house.cell(0, cell), -2);
            check.due("cell(1, " + cell + ")", house.cell(1, cell), -2);
        }
        check.due("cell(2, 0)", house.cell(2, 0), 3);
    }

    private static void whichRefusalComesFirst(Check check) {
        check.says("BAD: no such cell, or version so far; NO: it is gone.");
        HouseWorkers house = new HouseWorkers();
        Houses.commitOne(house);
        check.due("cell(0, 16)", house.cell(0, 16), -1);
        check.due("cell(0, -1)", house.cell(0, -1), -1);
        check.due("cell(2, 16)", house.cell(2, 16), -1);
        check.due("cell(-1, -1)", house.cell(-1, -1), -1);
    }

    private static void askingChangesNothing(Check check) {
        check.says("A cell of a version.");
        HouseWorkers house = Houses.counted();
        house.stream();
        Houses.commitOne(house);
        int[] seen = Houses.seen(house);
        for (int version = -1; version < 3; version++) {
            house.cell(version, 0);
            house.cell(version, 16);
        }
        check.dueSame("cell", house, seen);
    }
}
