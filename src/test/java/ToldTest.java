/** Promise 11: told. */
public final class ToldTest {
    public static void main(String[] args) {
        Check check = new Check("Promise 11: told");
        itsKind(check);
        howItEnded(check);
        howManySteps(check);
        commitsAndFailuresAreNoSteps(check);
        itsAnswer(check);
        theAnswerStaysWhenItEnds(check);
        theVersionOfAQuestion(check);
        theVersionThatWasCommitted(check);
        withoutACommit(check);
        theVersionOfAStream(check);
        aTurnWouldDoNothing(check);
        aTurnWouldDoSomething(check);
        aTurnOfOneThatEnded(check);
        askingChangesNothing(check);
        noSuchWorkerOrWhat(check);
        check.finish();
    }

    private static void itsKind(Check check) {
        check.says("Of a worker: 0 its kind (0 question, 1 writer, 2 reasoning, 3 stream)");
        HouseWorkers house = new HouseWorkers();
        for (int kind = Houses.KINDS - 1; kind >= 0; kind--) {
            int work = Houses.begin(house, kind);
            check.due("told(" + work + ", 0)", house.told(work, 0), kind);
        }
        house.close();
        check.due("told(0, 0) when it has ended", house.told(0, 0), 3);
        check.due("told(3, 0) when it has ended", house.told(3, 0), 0);
    }

    private static void howItEnded(Check check) {
        check.says("1 how it ended (0 it did not, 2 DONE, 3 FAILED, 4 CANCELLED)");
        for (int kind = 0; kind < Houses.KINDS; kind++) {
            HouseWorkers house = new HouseWorkers();
            Houses.begin(house, kind, 1);
            Houses.begin(house, kind);
            Houses.begin(house, kind);
            for (int work = 0; work < 3; work++) {
                check.due("told(" + work + ", 1) of kind " + kind, house.told(work, 1), 0);
            }
            house.cancel(2);
            check.due("told(2, 1) of kind " + kind, house.told(2, 1), 0);
            house.run(1000);
            boolean never = kind == Houses.STREAM;
            check.due("told(0, 1) of kind " + kind, house.told(0, 1), never ? 0 : 3);
            check.due("told(1, 1) of kind " + kind, house.told(1, 1), never ? 0 : 2);
            check.due("told(2, 1) of kind " + kind, house.told(2, 1), 4);
        }
    }

    private static void howManySteps(Check check) {
        check.says("2 how many steps it did");
        HouseWorkers house = new HouseWorkers();
        house.question(20, 0, 0);
        for (int step = 0; step < 20; step++) {
            check.due("told(0, 2)", house.told(0, 2), step);
            house.turn(0);
        }
        check.dueTurns(house, 0, 0);
        check.due("told(0, 2) when it is done", house.told(0, 2), 20);
        house.stream();
        check.due("told(1, 2) of a stream", house.told(1, 2), 0);
        house.turn(1);
        check.due("told(1, 2) when it waits", house.told(1, 2), 0);
        Houses.commitOne(house);
        house.turn(1);
        check.due("told(1, 2) when it got one", house.told(1, 2), 1);
    }

    private static void commitsAndFailuresAreNoSteps(Check check) {
        check.says("2 how many steps it did");
        HouseWorkers house = new HouseWorkers();
        house.writer(2, 0, 0, 1);
        house.reason(2, 0);
        house.question(2, 2, 0);
        house.question(2, 0, 0);
        house.turn(3);
        house.cancel(3);
        house.run(1000);
        check.due("told(0, 2) of one that committed", house.told(0, 2), 2);
        check.due("told(1, 2) of one that committed", house.told(1, 2), 2);
        check.due("told(2, 2) of one that failed", house.told(2, 2), 1);
        check.due("told(3, 2) of one that is cancelled", house.told(3, 2), 1);
    }

    private static void itsAnswer(Check check) {
        check.says("3 its answer (0 of writers and reasonings)");
        HouseWorkers house = Houses.counted();
        house.writer(2, 0, 0, 1);
        house.reason(2, 0);
        house.question(2, 0, 0);
        house.stream();
        for (int work = 0; work < 4; work++) {
            check.due("told(" + work + ", 3) at first", house.told(work, 3), 0);
        }
        house.run(1000);
        check.due("told(0, 3) of a writer", house.told(0, 3), 0);
        check.due("told(1, 3) of a reasoning", house.told(1, 3), 0);
        check.due("told(2, 3) of a question", house.told(2, 3), 31 + 2);
        // In two rounds the cells become 16, 16, 3, 4 .. 16.
        check.due("told(3, 3) of a stream", house.told(3, 3), 138 * 31 + 165);
    }

    private static void theAnswerStaysWhenItEnds(Check check) {
        check.says("3 its answer (0 of writers and reasonings)");
        HouseWorkers house = Houses.counted();
        house.question(3, 2, 4);
        house.question(3, 0, 4);
        house.stream();
        Houses.commitOne(house);
        house.turn(1);
        house.turn(2);
        house.turn(0);
        house.turn(0);
        house.close();
        check.dueTold(house, 0, 0, 3, 1, 5, 0, 1);
        check.dueTold(house, 1, 0, 4, 1, 5, 0, 1);
        check.dueTold(house, 2, 3, 4, 1, 137, 1, 1);
    }

    private static void theVersionOfAQuestion(Check check) {
        check.says("4 a version: that of a question");
        HouseWorkers house = new HouseWorkers();
        house.question(3, 0, 0);
        Houses.commitOne(house);
        house.question(3, 0, 0);
        Houses.commitOne(house);
        check.due("told(0, 4)", house.told(0, 4), 0);
        check.due("told(2, 4)", house.told(2, 4), 1);
        house.run(1000);
        check.due("told(0, 4) when it has ended", house.told(0, 4), 0);
        check.due("told(2, 4) when it has ended", house.told(2, 4), 1);
    }

    private static void theVersionThatWasCommitted(Check check) {
        check.says("that which a writer or reasoning committed (-1 without)");
        HouseWorkers house = new HouseWorkers();
        house.writer(1, 0, 0, 1);
        house.writer(1, 1, 0, 1);
        house.reason(1, 0);
        house.writer(1, 0, 0, 1);
        house.run(1000);
        check.due("told(0, 4)", house.told(0, 4), 1);
        check.due("told(1, 4)", house.told(1, 4), -1);
        check.due("told(2, 4)", house.told(2, 4), 2);
        check.due("told(3, 4)", house.told(3, 4), 3);
    }

    private static void withoutACommit(Check check) {
        check.says("(-1 without)");
        HouseWorkers house = new HouseWorkers();
        house.writer(1, 0, 0, 1);
        check.due("told(0, 4) at first", house.told(0, 4), -1);
        house.turn(0);
        check.due("told(0, 4) before it commits", house.told(0, 4), -1);
        Houses.stop(house, 0);
        check.due("told(0, 4) when it is cancelled", house.told(0, 4), -1);
        house.reason(2, 2);
        check.due("told(1, 4) at first", house.told(1, 4), -1);
        house.turn(1);
        check.due("told(1, 4) when it pins one", house.told(1, 4), -1);
        house.turn(1);
        check.due("told(1, 4) when it failed", house.told(1, 4), -1);
    }

    private static void theVersionOfAStream(Check check) {
        check.says("the one that a stream got last (or that was the latest when it began)");
        HouseWorkers house = new HouseWorkers();
        house.stream();
        check.due("told(0, 4) at first", house.told(0, 4), 0);
        Houses.commitOne(house);
        house.stream();
        Houses.commitOne(house);
        check.due("told(0, 4) before it got one", house.told(0, 4), 0);
        check.due("told(2, 4) before it got one", house.told(2, 4), 1);
        house.turn(0);
        check.due("told(0, 4) with the first", house.told(0, 4), 1);
        house.run(1000);
        check.due("told(0, 4) with the last", house.told(0, 4), 2);
        check.due("told(2, 4) with the last", house.told(2, 4), 2);
        house.close();
        check.due("told(0, 4) when it has ended", house.told(0, 4), 2);
    }

    private static void aTurnWouldDoNothing(Check check) {
        check.says("5 whether its turn would do nothing now (1, 0)");
        HouseWorkers house = new HouseWorkers();
        house.writer(1, 0, 0, 1);
        house.writer(1, 0, 0, 1);
        house.reason(1, 0);
        house.stream();
        house.turn(1);
        check.due("told(1, 5) of a writer that waits", house.told(1, 5), 1);
        check.due("told(2, 5) of a reasoning that waits", house.told(2, 5), 1);
        check.due("told(3, 5) of a stream that waits", house.told(3, 5), 1);
    }

    private static void aTurnWouldDoSomething(Check check) {
        check.says("5 whether its turn would do nothing now (1, 0)");
        HouseWorkers house = new HouseWorkers();
        house.writer(1, 0, 0, 1);
        house.writer(1, 1, 0, 1);
        house.stream();
        house.question(1, 0, 0);
        check.due("told(1, 5) of one that would fail", house.told(1, 5), 0);
        check.due("told(3, 5) of a question", house.told(3, 5), 0);
        house.cancel(2);
        check.due("told(2, 5) of one that would be cancelled", house.told(2, 5), 0);
        house.turn(0);
        check.due("told(0, 5) of one that would commit", house.told(0, 5), 0);
        int stream = house.stream();
        house.turn(0);
        check.due("told(4, 5) of a stream that would get one", house.told(stream, 5), 0);
    }

    private static void aTurnOfOneThatEnded(Check check) {
        check.says("5 whether its turn would do nothing now (1, 0)");
        HouseWorkers house = new HouseWorkers();
        house.question(1, 0, 0);
        house.question(1, 1, 0);
        house.stream();
        house.cancel(2);
        house.question(1, 0, 0);
        check.due("run(3)", house.run(3), 3);
        house.close();
        for (int work = 0; work < 4; work++) {
            check.due("told(" + work + ", 5)", house.told(work, 5), 1);
        }
    }

    private static void askingChangesNothing(Check check) {
        check.says("Of a worker");
        HouseWorkers house = new HouseWorkers();
        house.reason(2, 0);
        house.reason(2, 0);
        for (int i = 0; i < 10; i++) {
            check.dueTold(house, 0, 2, 0, 0, 0, -1, 0);
            check.dueTold(house, 1, 2, 0, 0, 0, -1, 1);
        }
        check.dueCount(house, 3, 0);
        check.dueCount(house, 4, 0);
    }

    private static void noSuchWorkerOrWhat(Check check) {
        check.says("BAD.");
        HouseWorkers house = new HouseWorkers();
        check.due("told(0, 0) without workers", house.told(0, 0), -1);
        house.stream();
        int[] wrong = {-1, 6, Houses.LEAST, Houses.GREATEST};
        for (int w : wrong) {
            check.due("told(0, " + w + ")", house.told(0, w), -1);
            check.due("told(" + w + ", 0)", house.told(w, 0), -1);
            check.due("told(" + w + ", " + w + ")", house.told(w, w), -1);
        }
        for (int what = 0; what < 6; what++) {
            check.due("told(1, " + what + ")", house.told(1, what), -1);
            check.due("told(-1, " + what + ")", house.told(-1, what), -1);
        }
        HouseWorkers full = Houses.full();
        check.due("told(29, 0) of a full house", full.told(29, 0), 0);
        check.due("told(30, 0) of a full house", full.told(30, 0), -1);
    }
}
