/** Terms: what a question does. */
public final class QuestionTermsTest {
    public static void main(String[] args) {
        Check check = new Check("Terms");
        pinsTheLatestWhenItBegins(check);
        readsWhatItPinned(check);
        readsItsCellsInOrder(check);
        readsCell0BehindCell15(check);
        goesRoundAllCells(check);
        theAnswerIs0AtFirst(check);
        doneWithItsLastStep(check);
        itNeverWaits(check);
        check.finish();
    }

    private static void pinsTheLatestWhenItBegins(Check check) {
        check.says("QUESTION: it PINS the version that is the latest when it begins.");
        HouseWorkers house = new HouseWorkers();
        check.dueCount(house, 2, 0);
        house.question(1, 0, 0);
        check.dueCount(house, 2, 1);
        Houses.commitOne(house);
        house.question(1, 0, 0);
        check.dueCount(house, 2, 2);
        check.due("told(0, 4)", house.told(0, 4), 0);
        check.due("told(2, 4)", house.told(2, 4), 1);
    }

    private static void readsWhatItPinned(Check check) {
        check.says("Its k-th step reads cell (first + k - 1) modulo 16 of that");
        HouseWorkers house = Houses.counted();
        house.writer(2, 0, 0, 100);
        house.question(2, 0, 0);
        house.turn(1);
        check.dueTurns(house, 0, 1, 1, 2);
        house.question(2, 0, 0);
        house.run(1000);
        check.due("told(1, 3)", house.told(1, 3), 31 + 2);
        check.due("told(2, 3)", house.told(2, 3), 101 * 31 + 102);
    }

    private static void readsItsCellsInOrder(Check check) {
        check.says("the ANSWER, 0 at first, becomes 31 times the answer and that.");
        HouseWorkers house = Houses.counted();
        house.question(3, 0, 2);
        house.turn(0);
        check.due("told(0, 3)", house.told(0, 3), 3);
        house.turn(0);
        check.due("told(0, 3)", house.told(0, 3), 3 * 31 + 4);
        house.turn(0);
        check.due("told(0, 3)", house.told(0, 3), (3 * 31 + 4) * 31 + 5);
    }

    private static void readsCell0BehindCell15(Check check) {
        check.says("(first + k - 1) modulo 16");
        HouseWorkers house = Houses.counted();
        house.question(2, 0, 15);
        house.question(3, 0, 14);
        house.run(1000);
        check.due("told(0, 3)", house.told(0, 3), 16 * 31 + 1);
        check.due("told(1, 3)", house.told(1, 3), (15 * 31 + 16) * 31 + 1);
    }

    private static void goesRoundAllCells(Check check) {
        check.says("(first + k - 1) modulo 16");
        for (int first = 0; first < 16; first++) {
            HouseWorkers house = Houses.counted();
            house.question(20, 0, first);
            int answer = 0;
            for (int k = 1; k <= 20; k++) {
                house.turn(0);
                answer = 31 * answer + (first + k - 1) % 16 + 1;
                check.due("told(0, 3), first " + first + ", step " + k, house.told(0, 3), answer);
            }
        }
    }

    private static void theAnswerIs0AtFirst(Check check) {
        check.says("the ANSWER, 0 at first");
        HouseWorkers house = Houses.counted();
        house.question(1, 1, 3);
        check.due("told(0, 3)", house.told(0, 3), 0);
        house.turn(0);
        check.due("told(0, 3) when it failed", house.told(0, 3), 0);
    }

    private static void doneWithItsLastStep(Check check) {
        check.says("With its last step it is DONE.");
        HouseWorkers house = Houses.counted();
        house.question(1, 0, 9);
        check.dueTurns(house, 0, 2);
        check.dueTold(house, 0, 0, 2, 1, 10, 0, 1);
        house.question(2, 0, 9);
        check.dueTurns(house, 1, 1, 2, 0);
        check.dueEnd(house, 1, 1, 2, 3);
    }

    private static void itNeverWaits(Check check) {
        check.says("With its last step it is DONE.");
        HouseWorkers house = new HouseWorkers();
        house.stream();
        house.writer(1, 0, 0, 1);
        house.reason(1, 0);
        house.question(2, 0, 0);
        check.dueTurns(house, 3, 1, 2);
    }
}
