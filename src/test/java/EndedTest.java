/** Promise 12: ended. */
public final class EndedTest {
    public static void main(String[] args) {
        Check check = new Check("Promise 12: ended");
        whichWorkerInTheOrderOfTheEnds(check);
        howItEnded(check);
        turnsWithThatOne(check);
        turnsThatDidNothingDoNotCount(check);
        closingCountsNone(check);
        allThirty(check);
        noSuchWhat(check);
        notSoMany(check);
        whichRefusalComesFirst(check);
        check.finish();
    }

    private static void whichWorkerInTheOrderOfTheEnds(Check check) {
        check.says("The i-th end, from 0: which worker (what = 0)");
        HouseWorkers house = new HouseWorkers();
        house.question(1, 0, 0);
        house.question(1, 0, 0);
        house.question(1, 0, 0);
        house.turn(2);
        check.due("ended(0, 0)", house.ended(0, 0), 2);
        house.turn(0);
        house.turn(1);
        check.due("ended(0, 0)", house.ended(0, 0), 2);
        check.due("ended(1, 0)", house.ended(1, 0), 0);
        check.due("ended(2, 0)", house.ended(2, 0), 1);
    }

    private static void howItEnded(Check check) {
        check.says("how it ended (1)");
        HouseWorkers house = new HouseWorkers();
        house.question(1, 0, 0);
        house.question(1, 1, 0);
        house.question(1, 0, 0);
        house.stream();
        house.cancel(2);
        house.run(3);
        house.close();
        int[] how = {2, 3, 4, 4};
        for (int i = 0; i < how.length; i++) {
            check.due("ended(" + i + ", 1)", house.ended(i, 1), how[i]);
        }
    }

    private static void turnsWithThatOne(Check check) {
        check.says("how many turns that did something there had been, with that one");
        HouseWorkers house = new HouseWorkers();
        house.question(1, 0, 0);
        house.question(3, 2, 0);
        house.writer(1, 0, 0, 1);
        house.stream();
        house.turn(0);
        check.dueEnd(house, 0, 0, 2, 1);
        house.turn(1);
        house.turn(1);
        check.dueEnd(house, 1, 1, 3, 3);
        house.turn(2);
        house.turn(2);
        check.dueEnd(house, 2, 2, 2, 5);
        house.turn(3);
        Houses.stop(house, 3);
        check.dueEnd(house, 3, 3, 4, 7);
        check.dueEnd(house, 0, 0, 2, 1);
    }

    private static void turnsThatDidNothingDoNotCount(Check check) {
        check.says("how many turns that did something there had been, with that one");
        HouseWorkers house = new HouseWorkers();
        house.stream();
        house.question(1, 0, 0);
        check.dueTurns(house, 0, 0, 0, 0);
        check.dueTurns(house, 1, 2, 0, 0);
        Houses.stop(house, 0);
        check.dueEnd(house, 0, 1, 2, 1);
        check.dueEnd(house, 1, 0, 4, 2);
    }

    private static void closingCountsNone(Check check) {
        check.says("(2; closing counts none)");
        HouseWorkers house = new HouseWorkers();
        house.stream();
        house.question(3, 0, 0);
        house.stream();
        house.turn(1);
        house.close();
        check.dueEnd(house, 0, 0, 4, 1);
        check.dueEnd(house, 1, 1, 4, 1);
        check.dueEnd(house, 2, 2, 4, 1);
        check.dueCount(house, 3, 1);
        HouseWorkers unused = new HouseWorkers();
        unused.stream();
        unused.close();
        check.dueEnd(unused, 0, 0, 4, 0);
    }

    private static void allThirty(Check check) {
        check.says("The i-th end, from 0");
        HouseWorkers house = Houses.full();
        for (int work = 29; work >= 0; work--) {
            check.dueTurns(house, work, 2);
        }
        for (int i = 0; i < 30; i++) {
            check.dueEnd(house, i, 29 - i, 2, i + 1);
        }
        check.dueEnd(house, 30, -2, -2, -2);
    }

    private static void noSuchWhat(Check check) {
        check.says("BAD: no such what");
        HouseWorkers house = new HouseWorkers();
        house.question(1, 0, 0);
        house.turn(0);
        int[] wrong = {-1, 3, Houses.LEAST, Houses.GREATEST};
        for (int what : wrong) {
            check.due("ended(0, " + what + ")", house.ended(0, what), -1);
        }
    }

    private static void notSoMany(Check check) {
        check.says("NO: there were not so many.");
        HouseWorkers house = new HouseWorkers();
        house.question(1, 0, 0);
        house.question(2, 0, 0);
        check.dueEnd(house, 0, -2, -2, -2);
        house.turn(0);
        house.turn(1);
        check.due("ended(0, 0)", house.ended(0, 0), 0);
        int[] wrong = {1, 2, 29, 30, -1, Houses.LEAST, Houses.GREATEST};
        for (int i : wrong) {
            check.dueEnd(house, i, -2, -2, -2);
        }
    }

    private static void whichRefusalComesFirst(Check check) {
        check.says("BAD: no such what; NO: there were not so many.");
        HouseWorkers house = new HouseWorkers();
        check.due("ended(0, 3)", house.ended(0, 3), -1);
        check.due("ended(-1, -1)", house.ended(-1, -1), -1);
        check.due("ended(30, 3)", house.ended(30, 3), -1);
        check.due("ended(0, 2)", house.ended(0, 2), -2);
    }
}
