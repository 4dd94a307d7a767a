/** Promise 6: stream. */
public final class StreamTest {
    public static void main(String[] args) {
        Check check = new Check();
        getsEachVersionOnce(check);
        beginsBehindTheLatest(check);
        sumsWrap(check);
        closedAndFull(check);
        check.finish();
    }

    private static void getsEachVersionOnce(Check check) {
        HouseWorkers house = new HouseWorkers();
        house.put(0, 5);
        check.due("stream()", house.stream(), 0);
        check.dueTold(house, 0, 3, 0, 0, 0, 0, 1);
        check.dueTurns(house, 0, 0);
        house.writer(1, 0, 0, 1);
        house.writer(2, 0, 8, 10);
        check.dueTurns(house, 1, 1, 2);
        check.dueTurns(house, 2, 1, 1, 2);
        check.due("told(0, 5)", house.told(0, 5), 0);
        check.dueTurns(house, 0, 1);
        check.dueTold(house, 0, 3, 0, 1, 6, 1, 0);
        check.dueTurns(house, 0, 1, 0);
        check.dueTold(house, 0, 3, 0, 2, 6 * 31 + 26, 2, 1);
    }

    private static void beginsBehindTheLatest(Check check) {
        HouseWorkers house = new HouseWorkers();
        house.writer(1, 0, 0, 1);
        house.run(1000);
        house.stream();
        check.dueTold(house, 1, 3, 0, 0, 0, 1, 1);
        check.dueTurns(house, 1, 0);
        house.writer(1, 0, 0, 1);
        house.run(1000);
        check.dueTold(house, 1, 3, 0, 1, 2, 2, 1);
    }

    private static void sumsWrap(Check check) {
        HouseWorkers house = new HouseWorkers();
        house.put(0, Integer.MAX_VALUE);
        house.put(1, Integer.MAX_VALUE);
        house.stream();
        house.writer(1, 0, 2, Integer.MAX_VALUE);
        house.writer(1, 0, 2, 0);
        house.run(1000);
        int sum = Integer.MAX_VALUE - 2;
        check.due("its answer", house.told(0, 3), 31 * sum + sum);
    }

    private static void closedAndFull(Check check) {
        HouseWorkers house = new HouseWorkers();
        for (int i = 0; i < 30; i++) {
            check.due("stream()", house.stream(), i);
        }
        check.due("stream() when full", house.stream(), -3);
        house.close();
        check.due("stream() when closed and full", house.stream(), -2);
        HouseWorkers closed = new HouseWorkers();
        closed.close();
        check.due("stream() when closed", closed.stream(), -2);
    }
}
