/** Promise 10: close. */
public final class CloseTest {
    public static void main(String[] args) {
        Check check = new Check();
        allThatGoOnAreCancelled(check);
        onlyOnce(check);
        nothingIsHeldAnyMore(check);
        check.finish();
    }

    private static void allThatGoOnAreCancelled(Check check) {
        HouseWorkers house = new HouseWorkers();
        house.stream();
        house.question(1, 0, 0);
        house.writer(2, 0, 0, 1);
        house.question(1, 1, 0);
        house.reason(2, 0);
        house.turn(1);
        house.turn(3);
        house.turn(2);
        house.cancel(4);
        check.due("close()", house.close(), 3);
        check.dueEnd(house, 0, 1, 2, 1);
        check.dueEnd(house, 1, 3, 3, 2);
        check.dueEnd(house, 2, 0, 4, 3);
        check.dueEnd(house, 3, 2, 4, 3);
        check.dueEnd(house, 4, 4, 4, 3);
        check.due("ended(5, 0)", house.ended(5, 0), -2);
        check.due("count(3)", house.count(3), 3);
        check.due("count(5)", house.count(5), 0);
        check.dueTold(house, 2, 1, 4, 1, 0, -1, 1);
        for (int work = 0; work < 5; work++) {
            check.dueTurns(house, work, 0);
            check.due("cancel(" + work + ")", house.cancel(work), 0);
        }
        check.due("count(4)", house.count(4), 0);
    }

    private static void onlyOnce(Check check) {
        HouseWorkers house = new HouseWorkers();
        check.due("close()", house.close(), 0);
        check.due("close() again", house.close(), -2);
        check.due("question(1, 0, 0)", house.question(1, 0, 0), -2);
        check.due("writer(1, 0, 0, 0)", house.writer(1, 0, 0, 0), -2);
        check.due("reason(1, 0)", house.reason(1, 0), -2);
        check.due("stream()", house.stream(), -2);
    }

    private static void nothingIsHeldAnyMore(Check check) {
        HouseWorkers house = new HouseWorkers();
        house.question(5, 0, 0);
        house.stream();
        house.writer(1, 0, 0, 1);
        house.writer(1, 0, 0, 1);
        Check.commitTwoAndThree(house);
        check.due("count(1)", house.count(1), 3);
        check.due("close()", house.close(), 2);
        check.due("count(1)", house.count(1), 1);
        check.due("count(2)", house.count(2), 0);
        check.due("cell(0, 0)", house.cell(0, 0), -2);
        check.due("cell(1, 0)", house.cell(1, 0), -2);
        check.due("cell(2, 0)", house.cell(2, 0), 2);
    }
}
