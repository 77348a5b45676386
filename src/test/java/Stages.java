/** Calls that lead a new deck to a stage in which boundary cases are looked at. */
final class Stages {
    static final String[] NEW = {};

    /** No picture is open: one was shown, lit and kept, the next one waits as the new reference. */
    static final String[] CLOSED = {
        "size 2 1", "matrix 0 1 40", "matrix 1 0 20",
        "begin 1 1 1 false", "itself", "level 0 0 20", "level 4 0 9", "square", "itself", "level 1 3 30", "square", "done",
        "begin 2 3 2 true", "scale 9", "itself", "level 2 0 -7", "level 5 9 15", "square", "vector 0 5 -7", "level 0 0 3",
        "square", "done", "light 1 3", "keep", "light 1 2",
    };

    /** A picture is open, one of its two squares is there, and nothing was told for the other. */
    static final String[] OPEN_1 = with(CLOSED,
        "begin 1 2 3 false", "scale 5", "itself", "level 0 0 9", "level 0 4 7", "level 4 0 -3", "square");
    static final String[] OPEN_2 = with(CLOSED,
        "begin 2 2 3 false", "scale 5", "vector 0 3 -2", "level 0 0 2", "square");
    static final String[] OPEN_3 = with(CLOSED,
        "begin 3 2 3 true", "scale 5", "vector 0 3 -2", "vector 1 4 5", "square");

    /** Something was told for the other square, too. */
    static final String[] TOLD_1 = with(OPEN_1, "itself", "level 2 5 -20");
    static final String[] TOLD_2 = with(OPEN_2, "level 2 5 -20", "vector 0 1 1");
    static final String[] TOLD_3 = with(OPEN_3, "vector 0 1 1", "level 5 63 9");

    /** Both squares are there, and the picture is not done yet. */
    static final String[] FULL_1 = with(TOLD_1, "square");
    static final String[] FULL_2 = with(TOLD_2, "square");
    static final String[] FULL_3 = with(TOLD_3, "square");

    static final String[][] ALL = {
        NEW, CLOSED, OPEN_1, OPEN_2, OPEN_3, TOLD_1, TOLD_2, TOLD_3, FULL_1, FULL_2, FULL_3,
    };
    static final String[][] NONE_OPEN = {NEW, CLOSED};
    static final String[][] ANY_OPEN = {OPEN_1, OPEN_2, OPEN_3, TOLD_1, TOLD_2, TOLD_3, FULL_1, FULL_2, FULL_3};
    static final String[][] WITH_ROOM = {OPEN_1, OPEN_2, OPEN_3, TOLD_1, TOLD_2, TOLD_3};
    static final String[][] FULL = {FULL_1, FULL_2, FULL_3};

    private Stages() {
    }

    /** A picture for itself of one square, of flat blocks with these six samples. */
    static String[] flat(int... samples) {
        return with(new String[] {"begin 1 1 1 false"}, with(flatSquare(128, 128, 128, samples), "done"));
    }

    /** A square for itself of flat blocks, behind the samples past0, past1 and past2. */
    static String[] flatSquare(int past0, int past1, int past2, int... samples) {
        int[] past = {past0, samples[0], samples[1], samples[2], past1, past2};
        String[] calls = new String[8];
        calls[0] = "itself";
        for (int block = 0; block < 6; block++) {
            calls[1 + block] = "level " + block + " 0 " + (samples[block] - past[block]);
        }
        calls[7] = "square";
        return calls;
    }

    static String[] with(String[] stage, String... more) {
        String[] all = new String[stage.length + more.length];
        System.arraycopy(stage, 0, all, 0, stage.length);
        System.arraycopy(more, 0, all, stage.length, more.length);
        return all;
    }
}
