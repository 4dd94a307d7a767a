import java.util.Arrays;

/**
 * Counts and prints the answers that are not the ones that are due, each with the document's words
 * that ask for it. SentencesTest holds these words against the document.
 */
final class Check {
    private static final int CELLS = 16;

    private final String part;
    private String sentence = "";
    private int wrong = 0;

    /** The part of the document that the test is about, by its heading. */
    Check(String part) {
        this.part = part;
    }

    /** The answers from here on are what these words of the document ask for. */
    void says(String words) {
        sentence = words;
    }

    void due(String call, int got, int want) {
        if (got != want) {
            fail(call + " answered " + got + ", due is " + want);
        }
    }

    /** What told() says of one worker, from its kind to whether its turn would do nothing. */
    void dueTold(HouseWorkers house, int work, int... want) {
        for (int what = 0; what < want.length; what++) {
            due("told(" + work + ", " + what + ")", house.told(work, what), want[what]);
        }
    }

    void dueEnd(HouseWorkers house, int i, int work, int how, int turns) {
        due("ended(" + i + ", 0)", house.ended(i, 0), work);
        due("ended(" + i + ", 1)", house.ended(i, 1), how);
        due("ended(" + i + ", 2)", house.ended(i, 2), turns);
    }

    void dueCells(HouseWorkers house, int version, int... want) {
        for (int cell = 0; cell < CELLS; cell++) {
            due("cell(" + version + ", " + cell + ")", house.cell(version, cell), want[cell]);
        }
    }

    void dueTurns(HouseWorkers house, int work, int... want) {
        for (int i = 0; i < want.length; i++) {
            due("turn(" + work + "), the " + (i + 1) + ". in a line", house.turn(work), want[i]);
        }
    }

    void dueCount(HouseWorkers house, int what, int want) {
        due("count(" + what + ")", house.count(what), want);
    }

    /** All that can be asked of the house is still as it was when Houses.seen() was taken. */
    void dueSame(String call, HouseWorkers house, int[] seen) {
        if (!Arrays.equals(Houses.seen(house), seen)) {
            fail(call + " changed the house");
        }
    }

    void finish() {
        System.out.println(wrong == 0 ? "all answers are as due" : wrong + " answers are not as due");
        if (wrong != 0) {
            System.exit(1);
        }
    }

    private void fail(String what) {
        wrong++;
        System.out.println(part + ", \"" + sentence + "\": " + what);
    }
}
