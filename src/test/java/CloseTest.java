/** Promise 10: close. */
public final class CloseTest {
    public static void main(String[] args) {
        Check check = new Check("Promise 10: close");
        nobodyBeginsAnyMore(check);
        allThatHaveNotEnded(check);
        thoseThatWereToldToo(check);
        atOnceWithoutATurn(check);
        byTheirNumbers(check);
        howManyOfNone(check);
        howManyOfAFullHouse(check);
        itIsClosed(check);
        check.finish();
    }

    private static void nobodyBeginsAnyMore(Check check) {
        check.says("The house closes");
        HouseWorkers house = new HouseWorkers();
        house.close();
        check.due("question(1, 0, 0)", house.question(1, 0, 0), -2);
        check.due("writer(1, 0, 0, 0)", house.writer(1, 0, 0, 0), -2);
        check.due("reason(1, 0)", house.reason(1, 0), -2);
        check.due("stream()", house.stream(), -2);
        check.due("told(0, 0)", house.told(0, 0), -1);
    }

    /** 0 a stream that waits, 1 done, 2 a writer in its steps, 3 failed, 4 a reasoning that waits, 5 cancelled. */
    private static HouseWorkers mixed() {
        HouseWorkers house = new HouseWorkers();
        house.stream();
        house.question(1, 0, 0);
        house.writer(2, 0, 0, 1);
        house.question(1, 1, 0);
        house.reason(2, 0);
        house.stream();
        for (int work = 1; work <= 3; work++) {
            house.turn(work);
        }
        Houses.stop(house, 5);
        return house;
    }

    private static void allThatHaveNotEnded(Check check) {
        check.says("all workers that have not ended are CANCELLED");
        HouseWorkers house = mixed();
        check.due("close()", house.close(), 3);
        int[] how = {4, 2, 4, 3, 4, 4};
        for (int work = 0; work < how.length; work++) {
            check.due("told(" + work + ", 1)", house.told(work, 1), how[work]);
        }
        check.dueCount(house, 5, 0);
        check.dueTold(house, 2, 1, 4, 1, 0, -1, 1);
    }

    private static void thoseThatWereToldToo(Check check) {
        check.says("all workers that have not ended are CANCELLED");
        HouseWorkers house = new HouseWorkers();
        house.stream();
        house.stream();
        house.cancel(1);
        check.due("close()", house.close(), 2);
        check.dueEnd(house, 0, 0, 4, 0);
        check.dueEnd(house, 1, 1, 4, 0);
        check.dueEnd(house, 2, -2, -2, -2);
        check.dueTurns(house, 1, 0);
    }

    private static void atOnceWithoutATurn(Check check) {
        check.says("at once");
        HouseWorkers house = mixed();
        house.close();
        check.dueCount(house, 3, 4);
        check.dueCount(house, 4, 0);
        for (int work = 0; work < 6; work++) {
            check.dueTurns(house, work, 0);
        }
        check.due("run(1000)", house.run(1000), 0);
        check.dueCount(house, 3, 4);
        check.dueCount(house, 4, 0);
    }

    private static void byTheirNumbers(Check check) {
        check.says("by their numbers");
        HouseWorkers house = mixed();
        house.close();
        int[] who = {1, 3, 5, 0, 2, 4};
        for (int i = 0; i < who.length; i++) {
            check.due("ended(" + i + ", 0)", house.ended(i, 0), who[i]);
        }
        check.due("ended(6, 0)", house.ended(6, 0), -2);
    }

    private static void howManyOfNone(Check check) {
        check.says("how many");
        check.due("close() without workers", new HouseWorkers().close(), 0);
        HouseWorkers house = new HouseWorkers();
        house.question(1, 0, 0);
        house.run(1000);
        check.due("close() when all have ended", house.close(), 0);
        check.due("ended(1, 0)", house.ended(1, 0), -2);
    }

    private static void howManyOfAFullHouse(Check check) {
        check.says("how many");
        HouseWorkers house = Houses.full();
        check.due("close()", house.close(), 30);
        check.dueEnd(house, 29, 29, 4, 0);
        check.dueEnd(house, 30, -2, -2, -2);
    }

    private static void itIsClosed(Check check) {
        check.says("NO: it is closed.");
        HouseWorkers house = mixed();
        house.close();
        int[] seen = Houses.seen(house);
        check.due("close() again", house.close(), -2);
        check.due("close() once more", house.close(), -2);
        check.dueSame("close() again", house, seen);
        check.due("close() again without workers", Houses.closed().close(), -2);
    }
}
