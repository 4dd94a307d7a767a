/** Promise 6: stream. */
public final class StreamTest {
    public static void main(String[] args) {
        Check check = new Check("Promise 6: stream");
        beginsWithItsNumber(check);
        closed(check);
        full(check);
        closedAndFull(check);
        check.finish();
    }

    private static void beginsWithItsNumber(Check check) {
        check.says("A stream begins: its number.");
        HouseWorkers house = new HouseWorkers();
        check.due("stream()", house.stream(), 0);
        check.due("stream() again", house.stream(), 1);
        check.dueTold(house, 1, 3, 0, 0, 0, 0, 1);
        check.dueCount(house, 5, 2);
        check.due("told(2, 0)", house.told(2, 0), -1);
    }

    private static void closed(Check check) {
        check.says("NO");
        HouseWorkers house = Houses.closed();
        int[] seen = Houses.seen(house);
        check.due("stream() when closed", house.stream(), -2);
        check.dueSame("stream() when closed", house, seen);
    }

    private static void full(Check check) {
        check.says("FULL.");
        HouseWorkers house = new HouseWorkers();
        for (int i = 0; i < 30; i++) {
            check.due("stream " + i, house.stream(), i);
        }
        check.due("the 31st", house.stream(), -3);
        check.due("told(30, 0)", house.told(30, 0), -1);
        check.dueCount(house, 5, 30);
        Houses.stop(house, 12);
        check.due("the 31st when one has ended", house.stream(), -3);
        check.dueCount(house, 5, 29);
    }

    private static void closedAndFull(Check check) {
        check.says("NO; FULL.");
        HouseWorkers house = Houses.full();
        house.close();
        check.due("stream() when closed and full", house.stream(), -2);
    }
}
